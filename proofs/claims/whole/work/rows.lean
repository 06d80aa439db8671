section
abbrev Sc : Type := (Nat → Int32) × (Nat → Int32) × (Nat → Int32)
def pr (S : Sc) (k : Nat) (v : Int32) : Sc := (upd S.1 k v, S.2)
def pm (S : Sc) (k : Nat) (v : Int32) : Sc := (S.1, upd S.2.1 k v, S.2.2)
def pl (S : Sc) (k : Nat) (v : Int32) : Sc := (S.1, S.2.1, upd S.2.2 k v)
def bn {α : Type} (x : Int32 × Sc) (F : Int32 → Sc → α) : α := F x.1 x.2
def bs {α : Type} (x : Sc) (F : Sc → α) : α := F x
theorem bn_eq {α : Type} {x : Int32 × Sc} {r : Int32} {S : Sc} (e : x = (r, S)) {F : Int32 → Sc → α} : bn x F = F r S := by subst e; rfl
theorem bs_eq {α : Type} {x S : Sc} (e : x = S) {F : Sc → α} : bs x F = F S := by subst e; rfl
def bf : Nat → Int32 := fun k => match k with
  | 0 => 128
  | 1 => 64
  | 2 => 1
  | _ => 2
end
section
def bt (x : Int32) (i : Nat) : Bool := x.toBitVec.getLsbD i
theorem b_ext {x y : Int32} (h : ∀ i, i < 32 → bt x i = bt y i) : x = y := Int32.toBitVec_inj.mp (BitVec.eq_of_getLsbD_eq (fun i hi => h i hi))
theorem b_or (x y : Int32) (i : Nat) : bt (x ||| y) i = (bt x i || bt y i) := by unfold bt; rw [Int32.toBitVec_or, BitVec.getLsbD_or]
theorem b_and (x y : Int32) (i : Nat) : bt (x &&& y) i = (bt x i && bt y i) := by unfold bt; rw [Int32.toBitVec_and, BitVec.getLsbD_and]
theorem b_xor (x y : Int32) (i : Nat) : bt (x ^^^ y) i = (bt x i ^^ bt y i) := by unfold bt; rw [Int32.toBitVec_xor, BitVec.getLsbD_xor]
theorem b_big {x : Int32} {i : Nat} (h : 32 ≤ i) : bt x i = false := BitVec.getLsbD_of_ge _ _ h
theorem b_255 (i : Nat) : bt 255 i = decide (i < 8) := by
  rcases Nat.lt_or_ge i 32 with h | h
  · exact (by decide +kernel : ∀ i, i < 32 → bt 255 i = decide (i < 8)) i h
  · rw [b_big h, decide_eq_false (by omega)]
theorem b_65535 (i : Nat) : bt 65535 i = decide (i < 16) := by
  rcases Nat.lt_or_ge i 32 with h | h
  · exact (by decide +kernel : ∀ i, i < 32 → bt 65535 i = decide (i < 16)) i h
  · rw [b_big h, decide_eq_false (by omega)]
theorem b_m1 : ∀ i, i < 32 → bt (-1) i = true := by decide +kernel
theorem b_0 (i : Nat) : bt 0 i = false := BitVec.getLsbD_zero
theorem s_l : ∀ n, n < 32 → ((nI n &&& 31).toBitVec.smod 32).toNat = n := by decide +kernel
theorem s_u : ∀ n, n < 32 → (((nI n).toUInt32 &&& Int32.toUInt32 31).toBitVec % 32).toNat = n := by decide +kernel
theorem b_shl (n : Nat) (hn : n < 32) (x : Int32) {i : Nat} (hi : i < 32) : bt (x <<< (nI n &&& 31)) i = (decide (n ≤ i) && bt x (i - n)) := by
  unfold bt
  rw [Int32.toBitVec_shiftLeft]
  show (x.toBitVec <<< ((nI n &&& 31).toBitVec.smod 32).toNat).getLsbD i = _
  rw [s_l n hn, BitVec.getLsbD_shiftLeft]
  rcases Nat.lt_or_ge i n with h | h
  · simp [h, Nat.not_le.mpr h]
  · simp [hi, h, Nat.not_lt.mpr h]
theorem b_ushr (n : Nat) (hn : n < 32) (x : Int32) (i : Nat) : bt ((x.toUInt32 >>> ((nI n).toUInt32 &&& Int32.toUInt32 31)).toInt32) i = bt x (n + i) := by
  show (x.toUInt32 >>> ((nI n).toUInt32 &&& Int32.toUInt32 31)).toBitVec.getLsbD i = x.toUInt32.toBitVec.getLsbD (n + i)
  rw [UInt32.toBitVec_shiftRight]
  show (x.toUInt32.toBitVec >>> (((nI n).toUInt32 &&& Int32.toUInt32 31).toBitVec % 32).toNat).getLsbD i = _
  rw [s_u n hn, BitVec.getLsbD_ushiftRight]
theorem b_sshr (n : Nat) (hn : n < 32) (x : Int32) {i : Nat} (hi : i < 32) : bt (x >>> (nI n &&& 31)) i = if n + i < 32 then bt x (n + i) else bt x 31 := by
  unfold bt
  rw [Int32.toBitVec_shiftRight]
  show (x.toBitVec.sshiftRight ((nI n &&& 31).toBitVec.smod 32).toNat).getLsbD i = _
  rw [s_l n hn, BitVec.getLsbD_sshiftRight, BitVec.msb_eq_getLsbD_last]
  simp [hi]
theorem b_shl8 (x : Int32) {i : Nat} (hi : i < 32) : bt (x <<< ((8 : Int32) &&& 31)) i = (decide (8 ≤ i) && bt x (i - 8)) := b_shl 8 (by omega) x hi
theorem b_shl16 (x : Int32) {i : Nat} (hi : i < 32) : bt (x <<< ((16 : Int32) &&& 31)) i = (decide (16 ≤ i) && bt x (i - 16)) := b_shl 16 (by omega) x hi
theorem b_shl24 (x : Int32) {i : Nat} (hi : i < 32) : bt (x <<< ((24 : Int32) &&& 31)) i = (decide (24 ≤ i) && bt x (i - 24)) := b_shl 24 (by omega) x hi
theorem b_sshr8 (x : Int32) {i : Nat} (hi : i < 32) : bt (x >>> ((8 : Int32) &&& 31)) i = if 8 + i < 32 then bt x (8 + i) else bt x 31 := b_sshr 8 (by omega) x hi
theorem nx_and (a b : Nat) : nI a &&& nI b = nI (a &&& b) := by
  apply Int32.toBitVec_inj.1
  show BitVec.ofNat 32 a &&& BitVec.ofNat 32 b = BitVec.ofNat 32 (a &&& b)
  apply BitVec.eq_of_getLsbD_eq
  intro i hi
  simp [hi]
theorem nx_mod (k : Nat) : nI k &&& 65535 = nI (k % 65536) := by
  show nI k &&& nI 65535 = _
  rw [nx_and, show (65535 : Nat) = 2 ^ 16 - 1 from rfl, Nat.and_two_pow_sub_one_eq_mod]
theorem nx_m16 {k : Nat} (h : k < 65536) : nI k &&& 65535 = nI k := by rw [nx_mod, Nat.mod_eq_of_lt h]
theorem nx_mask (x : Int32) : ∃ k, k < 65536 ∧ x &&& 65535 = nI k := by
  have e : x = nI x.toBitVec.toNat := by
    apply Int32.toBitVec_inj.1
    show x.toBitVec = BitVec.ofNat 32 x.toBitVec.toNat
    simp
  refine ⟨x.toBitVec.toNat % 65536, Nat.mod_lt _ (by omega), ?_⟩
  rw [← nx_mod, ← e]
theorem bp_b (x : Int32) : x.toInt8.toInt32 &&& 255 = x &&& 255 := by
  apply Int32.toBitVec_inj.mp
  rw [Int32.toBitVec_and, Int32.toBitVec_and, Int8.toBitVec_toInt32, Int32.toBitVec_toInt8]
  apply BitVec.eq_of_getLsbD_eq
  intro i hi
  rw [BitVec.getLsbD_and, BitVec.getLsbD_and]
  have hm : ∀ i < 32, 8 ≤ i → (255 : Int32).toBitVec.getLsbD i = false := by decide
  rcases Nat.lt_or_ge i 8 with z | z
  · rw [BitVec.getLsbD_signExtend, BitVec.getLsbD_signExtend, if_pos z, if_pos hi]
    simp only [z, hi, decide_true, Bool.true_and]
  · rw [hm i hi z]; simp
theorem b_sshr7 (x : Int32) {i : Nat} (hi : i < 32) : bt (x >>> ((7 : Int32) &&& 31)) i = if 7 + i < 32 then bt x (7 + i) else bt x 31 := b_sshr 7 (by omega) x hi
theorem b_sshr16 (x : Int32) {i : Nat} (hi : i < 32) : bt (x >>> ((16 : Int32) &&& 31)) i = if 16 + i < 32 then bt x (16 + i) else bt x 31 := b_sshr 16 (by omega) x hi
theorem b_sshr1 (x : Int32) {i : Nat} (hi : i < 32) : bt (x >>> ((1 : Int32) &&& 31)) i = if 1 + i < 32 then bt x (1 + i) else bt x 31 := b_sshr 1 (by omega) x hi
theorem b_sshr6 (x : Int32) {i : Nat} (hi : i < 32) : bt (x >>> ((6 : Int32) &&& 31)) i = if 6 + i < 32 then bt x (6 + i) else bt x 31 := b_sshr 6 (by omega) x hi
theorem b_sshr5 (x : Int32) {i : Nat} (hi : i < 32) : bt (x >>> ((5 : Int32) &&& 31)) i = if 5 + i < 32 then bt x (5 + i) else bt x 31 := b_sshr 5 (by omega) x hi
theorem b_shl1 (x : Int32) {i : Nat} (hi : i < 32) : bt (x <<< ((1 : Int32) &&& 31)) i = (decide (1 ≤ i) && bt x (i - 1)) := b_shl 1 (by omega) x hi
theorem b_512 : ∀ i, i < 32 → bt 512 i = decide (i = 9) := by decide +kernel
theorem b_511 : ∀ i, i < 32 → bt 511 i = decide (i < 9) := by decide +kernel
theorem b_1 : ∀ i, i < 32 → bt 1 i = decide (i = 0) := by decide +kernel
theorem b_24 : ∀ i, i < 32 → bt 16777215 i = decide (i < 24) := by decide +kernel
theorem b_mk : ∀ i, i < 32 → bt 16777216 i = decide (i = 24) := by decide +kernel
theorem b_3 : ∀ i, i < 32 → bt 3 i = decide (i < 2) := by decide +kernel
abbrev r8 (x : Int32) : Prop := x &&& 255 = x
abbrev r16 (x : Int32) : Prop := x &&& 65535 = x
abbrev r24 (x : Int32) : Prop := x &&& 16777215 = x
theorem r8_bt {x : Int32} (h : r8 x) {i : Nat} (hi : 8 ≤ i) : bt x i = false := by
  rw [← h, b_and, b_255, decide_eq_false (by omega), Bool.and_false]
theorem r16_bt {x : Int32} (h : r16 x) {i : Nat} (hi : 16 ≤ i) : bt x i = false := by
  rw [← h, b_and, b_65535, decide_eq_false (by omega), Bool.and_false]
theorem r24_bt {x : Int32} (h : r24 x) {i : Nat} (hi : 24 ≤ i) : bt x i = false := by
  rcases Nat.lt_or_ge i 32 with h2 | h2
  · rw [← h, b_and, b_24 i h2, decide_eq_false (by omega), Bool.and_false]
  · exact b_big h2
theorem bt_r8 {x : Int32} (h : ∀ i, i < 32 → 8 ≤ i → bt x i = false) : r8 x := by
  apply b_ext
  intro i hi
  rw [b_and, b_255]
  by_cases z : i < 8
  · simp [z]
  · rw [h i hi (by omega)]; rfl
theorem bt_r16 {x : Int32} (h : ∀ i, i < 32 → 16 ≤ i → bt x i = false) : r16 x := by
  apply b_ext
  intro i hi
  rw [b_and, b_65535]
  by_cases z : i < 16
  · simp [z]
  · rw [h i hi (by omega)]; rfl
theorem bt_r24 {x : Int32} (h : ∀ i, i < 32 → 24 ≤ i → bt x i = false) : r24 x := by
  apply b_ext
  intro i hi
  rw [b_and, b_24 i hi]
  by_cases z : i < 24
  · simp [z]
  · rw [h i hi (by omega)]; rfl
theorem r8_16 {x : Int32} (h : r8 x) : r16 x := bt_r16 fun _ _ hi => r8_bt h (by omega)
theorem r16_24 {x : Int32} (h : r16 x) : r24 x := bt_r24 fun _ _ hi => r16_bt h (by omega)
theorem and_or_r (x y z : Int32) : (x ||| y) &&& z = (x &&& z) ||| (y &&& z) := by
  apply b_ext
  intro i _
  rw [b_and, b_or, b_or, b_and, b_and, Bool.and_or_distrib_right]
theorem m8 (x : Int32) : r8 (x &&& 255) := by
  show (x &&& 255) &&& 255 = x &&& 255
  rw [Int32.and_assoc]; rfl
theorem m16 (x : Int32) : r16 (x &&& 65535) := by
  show (x &&& 65535) &&& 65535 = x &&& 65535
  rw [Int32.and_assoc]; rfl
theorem m24 (x : Int32) : r24 (x &&& 16777215) := by
  show (x &&& 16777215) &&& 16777215 = x &&& 16777215
  rw [Int32.and_assoc]; rfl
theorem x32 (x : Int32) : x = nI x.toBitVec.toNat := by
  apply Int32.toBitVec_inj.1
  show x.toBitVec = BitVec.ofNat 32 x.toBitVec.toNat
  simp
theorem nx_pm (j k : Nat) : nI k &&& nI (2 ^ j - 1) = nI (k % 2 ^ j) := by rw [nx_and, Nat.and_two_pow_sub_one_eq_mod]
theorem m_lt (j : Nat) (x : Int32) : ∃ k, k < 2 ^ j ∧ x &&& nI (2 ^ j - 1) = nI k :=
  ⟨x.toBitVec.toNat % 2 ^ j, Nat.mod_lt _ (Nat.two_pow_pos j), by rw [← nx_pm, ← x32 x]⟩
theorem r8_nI {x : Int32} (h : r8 x) : ∃ k, k < 256 ∧ x = nI k := by
  obtain ⟨k, hk, e⟩ := m_lt 8 x
  exact ⟨k, hk, h.symm.trans e⟩
theorem r16_nI {x : Int32} (h : r16 x) : ∃ k, k < 65536 ∧ x = nI k := by
  obtain ⟨k, hk, e⟩ := m_lt 16 x
  exact ⟨k, hk, h.symm.trans e⟩
theorem vp_mask {x : Int32} (j : Nat) (hj : j < 31) (h : x &&& nI (2 ^ j - 1) = x) : vp_in x (2 ^ j) := by
  obtain ⟨k, hk, e⟩ := m_lt j x
  rw [← h, e]
  exact vp_in_nI hk (Nat.pow_lt_pow_right (by decide) hj)
theorem in_lit {i : Int32} {n : Nat} (h : decide (¬ (i < 0 ∨ n ≤ i.toNatClampNeg)) = true) : vp_in i n := by
  unfold vp_in
  exact of_decide_eq_true h
theorem in_and7 (x : Int32) : vp_in (x &&& 7) 8 := vp_mask 3 (by decide) (by
  show (x &&& 7) &&& 7 = x &&& 7
  rw [Int32.and_assoc]; rfl)
theorem sub512 (x y : Int32) : ((x &&& 512) ||| (y &&& 511)) &&& 1023 = (x &&& 512) ||| (y &&& 511) := by
  rw [and_or_r, Int32.and_assoc, Int32.and_assoc]; rfl
theorem add_or {x y : Int32} (h : x &&& y = 0) : x + y = x ||| y := by
  apply Int32.toBitVec_inj.mp
  rw [Int32.toBitVec_add, Int32.toBitVec_or]
  apply BitVec.add_eq_or_of_and_eq_zero
  rw [← Int32.toBitVec_and, h]; rfl
theorem t_512 (x : Int32) : (x >>> ((7 : Int32) &&& 31)) &&& 512 = if bt x 16 = true then 512 else 0 := by
  apply b_ext
  intro i hi
  rw [b_and, b_sshr7 x hi, b_512 i hi]
  by_cases h : i = 9
  · subst h
    cases hb : bt x 16
    · simp [hb, b_0]
    · simp [hb, b_512]
  · rw [decide_eq_false h, Bool.and_false]
    split
    · rw [b_512 i hi, decide_eq_false h]
    · rw [b_0]
theorem t_1 (x : Int32) : (x >>> ((16 : Int32) &&& 31)) &&& 1 = if bt x 16 = true then 1 else 0 := by
  apply b_ext
  intro i hi
  rw [b_and, b_sshr16 x hi, b_1 i hi]
  by_cases h : i = 0
  · subst h
    cases hb : bt x 16
    · simp [hb, b_0]
    · simp [hb, b_1]
  · rw [decide_eq_false h, Bool.and_false]
    split
    · rw [b_1 i hi, decide_eq_false h]
    · rw [b_0]
theorem t_b1 (x : Int32) : x &&& 1 = if bt x 0 = true then 1 else 0 := by
  apply b_ext
  intro i hi
  rw [b_and, b_1 i hi]
  by_cases h : i = 0
  · subst h
    cases hb : bt x 0
    · simp [b_0]
    · simp [b_1]
  · rw [decide_eq_false h, Bool.and_false]
    split
    · rw [b_1 i hi, decide_eq_false h]
    · rw [b_0]
theorem d_511 (x : Int32) : (512 : Int32) &&& (x &&& 511) = 0 := by
  rw [Int32.and_comm, Int32.and_assoc]
  show x &&& 0 = 0
  exact Int32.and_zero
theorem cell_c (x : Int32) : (((x >>> ((7 : Int32) &&& 31)) &&& 512) ||| (x &&& 511)) = (512 * ((x >>> ((16 : Int32) &&& 31)) &&& 1)) + (x &&& 511) := by
  rw [t_512, t_1]
  cases bt x 16
  · show (0 : Int32) ||| (x &&& 511) = 512 * 0 + (x &&& 511)
    rw [Int32.zero_or, Int32.mul_zero, Int32.zero_add]
  · show (512 : Int32) ||| (x &&& 511) = 512 * 1 + (x &&& 511)
    rw [Int32.mul_one, add_or (d_511 x)]
theorem mk_16 (x : Int32) : bt (16777216 ||| (x &&& 65535)) 16 = false := by
  rw [b_or, b_and, b_65535, b_mk 16 (by decide)]
  simp
theorem mk_511 (x : Int32) : (16777216 ||| (x &&& 65535)) &&& 511 = x &&& 511 := by
  rw [and_or_r, Int32.and_assoc]
  show (0 : Int32) ||| (x &&& 511) = _
  exact Int32.zero_or
theorem mk_24 (x : Int32) : ¬ (16777216 ||| (x &&& 65535)) &&& 16777216 = 0 := by
  intro h
  have h2 := congrArg (fun z => bt z 24) h
  simp only [b_and, b_or, b_65535, b_mk 24 (by decide), b_0] at h2
  simp at h2
theorem w16 {x y : Int32} (hx : r8 x) (hy : r8 y) : r16 (x ||| (y <<< ((8 : Int32) &&& 31))) := bt_r16 fun i hi h => by
  rw [b_or, b_shl8 y hi, r8_bt hx (by omega), r8_bt hy (by omega)]
  simp
theorem w24 {x y : Int32} (hx : r16 x) (hy : r8 y) : r24 (x ||| (y <<< ((16 : Int32) &&& 31))) := bt_r24 fun i hi h => by
  rw [b_or, b_shl16 y hi, r16_bt hx (by omega), r8_bt hy (by omega)]
  simp
theorem w24_add {x y : Int32} (hx : r16 x) : (y <<< ((16 : Int32) &&& 31)) + x = x ||| (y <<< ((16 : Int32) &&& 31)) := by
  rw [add_or, Int32.or_comm]
  apply b_ext
  intro i hi
  rw [b_and, b_shl16 y hi, b_0]
  by_cases z : i < 16
  · simp [Nat.not_le.mpr z]
  · rw [r16_bt hx (by omega), Bool.and_false]
theorem sh16_8 {x : Int32} (h : r24 x) : r8 (x >>> ((16 : Int32) &&& 31)) := bt_r8 fun i hi h8 => by
  rw [b_sshr16 x hi]
  split
  · exact r24_bt h (by omega)
  · exact r24_bt h (by omega)
theorem bt_pb {x y : Int32} (hy : r16 y) : bt ((x <<< ((16 : Int32) &&& 31)) ||| y) 16 = bt x 0 := by
  rw [b_or, b_shl16 x (by decide), r16_bt hy (by omega)]
  simp
theorem pb_511 (x y : Int32) : ((x <<< ((16 : Int32) &&& 31)) ||| y) &&& 511 = y &&& 511 := by
  apply b_ext
  intro i hi
  rw [b_and, b_or, b_and, b_shl16 x hi, b_511 i hi]
  by_cases z : i < 9
  · simp [z, show ¬ 16 ≤ i by omega]
  · simp [z]
def f_Wc_poke (S : Sc) (x1 x2 x3 : Int32) : Int32 × Sc := if x3 < (1 : Int32) then (((0 : Int32), S)) else (if (4 : Int32) < x3 then (((0 : Int32), S)) else (if x1 < (0 : Int32) then (((0 : Int32), S)) else (if x1 ≤ ((1024 : Int32) - x3) then (if x3 ≤ (0 : Int32) then (((1 : Int32), S)) else (if x3 ≤ (1 : Int32) then (((1 : Int32), (pm S (((x1 + (0 : Int32))).toNatClampNeg) (vp_nar .byte (((x2 >>> (((8 : Int32) * (0 : Int32)) &&& 31))).toInt8.toInt32))))) else (if x3 ≤ (2 : Int32) then (((1 : Int32), (pm (pm S (((x1 + (0 : Int32))).toNatClampNeg) (vp_nar .byte (((x2 >>> (((8 : Int32) * (0 : Int32)) &&& 31))).toInt8.toInt32))) (((x1 + (1 : Int32))).toNatClampNeg) (vp_nar .byte (((x2 >>> (((8 : Int32) * (1 : Int32)) &&& 31))).toInt8.toInt32))))) else (if x3 ≤ (3 : Int32) then (((1 : Int32), (pm (pm (pm S (((x1 + (0 : Int32))).toNatClampNeg) (vp_nar .byte (((x2 >>> (((8 : Int32) * (0 : Int32)) &&& 31))).toInt8.toInt32))) (((x1 + (1 : Int32))).toNatClampNeg) (vp_nar .byte (((x2 >>> (((8 : Int32) * (1 : Int32)) &&& 31))).toInt8.toInt32))) (((x1 + (2 : Int32))).toNatClampNeg) (vp_nar .byte (((x2 >>> (((8 : Int32) * (2 : Int32)) &&& 31))).toInt8.toInt32))))) else (((1 : Int32), (pm (pm (pm (pm S (((x1 + (0 : Int32))).toNatClampNeg) (vp_nar .byte (((x2 >>> (((8 : Int32) * (0 : Int32)) &&& 31))).toInt8.toInt32))) (((x1 + (1 : Int32))).toNatClampNeg) (vp_nar .byte (((x2 >>> (((8 : Int32) * (1 : Int32)) &&& 31))).toInt8.toInt32))) (((x1 + (2 : Int32))).toNatClampNeg) (vp_nar .byte (((x2 >>> (((8 : Int32) * (2 : Int32)) &&& 31))).toInt8.toInt32))) (((x1 + (3 : Int32))).toNatClampNeg) (vp_nar .byte (((x2 >>> (((8 : Int32) * (3 : Int32)) &&& 31))).toInt8.toInt32))))))))) else (((0 : Int32), S)))))
def f_Wc_peek (S : Sc) (x1 : Int32) : Int32 := if x1 < (0 : Int32) then ((-1 : Int32)) else (if x1 < (1024 : Int32) then (((S.2.1 (x1).toNatClampNeg) &&& (255 : Int32))) else ((-1 : Int32)))
def f_Wc_start (S : Sc) (x1 x2 : Int32) : Int32 × Sc := if x1 < (0 : Int32) then (((0 : Int32), S)) else (if (255 : Int32) < x1 then (((0 : Int32), S)) else (if x2 < (0 : Int32) then (((0 : Int32), S)) else (if x2 ≤ (65535 : Int32) then (((1 : Int32), (pr (pr (pr S 6 (x1)) 7 (x2)) 12 ((0 : Int32))))) else (((0 : Int32), S)))))
def f_Reg_wideIndex (S : Sc) : Int32 := if ((S.1 8) &&& (16 : Int32)) = (0 : Int32) then ((1 : Int32)) else ((0 : Int32))
def f_Reg_maskOf (x0 : Int32) : Int32 := if x0 = (0 : Int32) then ((255 : Int32)) else ((65535 : Int32))
def f_Reg_indexMask (S : Sc) : Int32 := (f_Reg_maskOf (f_Reg_wideIndex S))
def f_Reg_replaceP (S : Sc) (x1 : Int32) : Sc := (pr (pr (pr S 8 (x1)) 1 (((S.1 1) &&& (f_Reg_indexMask (pr S 8 (x1)))))) 2 (((S.1 2) &&& (f_Reg_indexMask (pr (pr S 8 (x1)) 1 (((S.1 1) &&& (f_Reg_indexMask (pr S 8 (x1))))))))))
def f_Wc_set (S : Sc) (x1 x2 : Int32) : Int32 × Sc := if x1 = (0 : Int32) then (((1 : Int32), (pr S 0 ((x2 &&& (65535 : Int32)))))) else (if x1 = (1 : Int32) then (((1 : Int32), (pr S 1 ((x2 &&& (f_Reg_indexMask S)))))) else (if x1 = (2 : Int32) then (((1 : Int32), (pr S 2 ((x2 &&& (f_Reg_indexMask S)))))) else (if x1 = (3 : Int32) then (((1 : Int32), (pr S 3 ((x2 &&& (65535 : Int32)))))) else (if x1 = (4 : Int32) then (((1 : Int32), (pr S 4 ((x2 &&& (65535 : Int32)))))) else (if x1 = (5 : Int32) then (((1 : Int32), (pr S 5 ((x2 &&& (255 : Int32)))))) else (if x1 = (6 : Int32) then (bs (f_Reg_replaceP S (x2 &&& (255 : Int32))) (fun S8 => ((1 : Int32), S8))) else (((0 : Int32), S))))))))
def f_Wc_register (S : Sc) (x1 : Int32) : Int32 := if x1 = (0 : Int32) then (S.1 0) else (if x1 = (1 : Int32) then (S.1 1) else (if x1 = (2 : Int32) then (S.1 2) else (if x1 = (3 : Int32) then (S.1 3) else (if x1 = (4 : Int32) then (S.1 4) else (if x1 = (5 : Int32) then (S.1 5) else (if x1 = (6 : Int32) then (S.1 8) else (if x1 = (7 : Int32) then (S.1 6) else (if x1 = (8 : Int32) then (S.1 7) else ((-1 : Int32))))))))))
def f_Bus_bank0Place (x0 : Int32) : Int32 := ((16777216 : Int32) ||| (x0 &&& (65535 : Int32)))
def f_Bus_cellOf (x0 : Int32) : Int32 := (((x0 >>> ((7 : Int32) &&& 31)) &&& (512 : Int32)) ||| (x0 &&& (511 : Int32)))
def f_Bus_writeByte (S : Sc) (x1 x2 : Int32) : Sc := (pm (pr (pl S ((((S.1 9) &&& (7 : Int32))).toNatClampNeg) (((f_Bus_cellOf x1) + (1024 : Int32)))) 9 (((S.1 9) + (1 : Int32)))) (((f_Bus_cellOf x1)).toNatClampNeg) (vp_nar .byte ((x2).toInt8.toInt32)))
def f_Stk_pushByte (S : Sc) (x1 : Int32) : Sc := bs (f_Bus_writeByte S (f_Bus_bank0Place (S.1 3)) x1) (fun S1 => (pr S1 3 ((((S1.1 3) - (1 : Int32)) &&& (65535 : Int32)))))
def f_Stk_pushWord (S : Sc) (x1 : Int32) : Sc := bs (f_Stk_pushByte S (x1 >>> ((8 : Int32) &&& 31))) (fun S1 => bs (f_Stk_pushByte S1 x1) (fun S3 => S3))
def f_Reg_putFlag (S : Sc) (x1 x2 : Int32) : Sc := if x2 = (0 : Int32) then ((pr S 8 (((S.1 8) &&& (x1 ^^^ (-1 : Int32)))))) else ((pr S 8 (((S.1 8) ||| x1))))
def f_Bus_readByte (S : Sc) (x1 : Int32) : Int32 × Sc := (((S.2.1 ((f_Bus_cellOf x1)).toNatClampNeg) &&& (255 : Int32)), (pr (pl S ((((S.1 9) &&& (7 : Int32))).toNatClampNeg) ((f_Bus_cellOf x1))) 9 (((S.1 9) + (1 : Int32)))))
def f_Bus_longPlace (x0 : Int32) : Int32 := (x0 &&& (16777215 : Int32))
def f_Bus_placeAfter (x0 : Int32) : Int32 := if (x0 &&& (16777216 : Int32)) = (0 : Int32) then ((f_Bus_longPlace (x0 + (1 : Int32)))) else ((f_Bus_bank0Place (x0 + (1 : Int32))))
def f_Bus_readWord (S : Sc) (x1 : Int32) : Int32 × Sc := bn (f_Bus_readByte S x1) (fun r1 S2 => bn (f_Bus_readByte S2 (f_Bus_placeAfter x1)) (fun r4 S5 => ((r1 ||| (r4 <<< ((8 : Int32) &&& 31))), S5)))
def f_Prc_enterInterrupt (S : Sc) (x1 : Int32) : Sc := bs (f_Stk_pushByte S (S.1 6)) (fun S1 => bs (f_Stk_pushWord S1 (S1.1 7)) (fun S3 => bs (f_Stk_pushByte S3 (S3.1 8)) (fun S5 => bs (f_Reg_putFlag S5 (4 : Int32) (1 : Int32)) (fun S7 => bs (f_Reg_putFlag S7 (8 : Int32) (0 : Int32)) (fun S9 => bn (f_Bus_readWord (pr S9 6 ((0 : Int32))) (f_Bus_bank0Place x1)) (fun r11 S12 => (pr S12 7 (r11))))))))
def f_Reg_has (S : Sc) (x1 : Int32) : Int32 := if ((S.1 8) &&& x1) = (0 : Int32) then ((0 : Int32)) else ((1 : Int32))
def f_Bus_programByte (S : Sc) (x1 x2 : Int32) : Int32 := ((S.2.1 ((((512 : Int32) * (x1 &&& (1 : Int32))) + (x2 &&& (511 : Int32)))).toNatClampNeg) &&& (255 : Int32))
def f_Opd_nextByte (S : Sc) : Int32 × Sc := ((f_Bus_programByte S (S.1 6) (S.1 7)), (pr S 7 ((((S.1 7) + (1 : Int32)) &&& (65535 : Int32)))))
def f_Opd_isMode (x0 : Int32) : Int32 := if x0 = (18 : Int32) then ((1 : Int32)) else (if (x0 &&& (1 : Int32)) = (1 : Int32) then (if (x0 &&& (15 : Int32)) = (11 : Int32) then ((0 : Int32)) else ((1 : Int32))) else ((0 : Int32)))
def f_Reg_wideA (S : Sc) : Int32 := if ((S.1 8) &&& (32 : Int32)) = (0 : Int32) then ((1 : Int32)) else ((0 : Int32))
def f_Opd_direct (S : Sc) (x1 : Int32) : Int32 × Sc := bn (f_Opd_nextByte S) (fun r1 S2 => ((f_Bus_bank0Place (((S.1 4) + r1) + x1)), S2))
def f_Opd_nextWord (S : Sc) : Int32 × Sc := bn (f_Opd_nextByte S) (fun r1 S2 => bn (f_Opd_nextByte S2) (fun r4 S5 => ((r1 ||| (r4 <<< ((8 : Int32) &&& 31))), S5)))
def f_Opd_inDataBank (S : Sc) (x1 x2 : Int32) : Int32 := (f_Bus_longPlace ((((S.1 5) <<< ((16 : Int32) &&& 31)) + x1) + x2))
def f_Opd_nextLong (S : Sc) : Int32 × Sc := bn (f_Opd_nextByte S) (fun r1 S2 => bn (f_Opd_nextByte S2) (fun r4 S5 => bn (f_Opd_nextByte S5) (fun r7 S8 => (((r1 ||| (r4 <<< ((8 : Int32) &&& 31))) ||| (r7 <<< ((16 : Int32) &&& 31))), S8))))
def f_Bus_readLong (S : Sc) (x1 : Int32) : Int32 × Sc := bn (f_Bus_readByte S x1) (fun r1 S2 => bn (f_Bus_readByte S2 (f_Bus_placeAfter x1)) (fun r4 S5 => bn (f_Bus_readByte S5 (f_Bus_placeAfter (f_Bus_placeAfter x1))) (fun r7 S8 => (((r1 ||| (r4 <<< ((8 : Int32) &&& 31))) ||| (r7 <<< ((16 : Int32) &&& 31))), S8))))
def f_Opd_onStack (S : Sc) : Int32 × Sc := bn (f_Opd_nextByte S) (fun r1 S2 => ((f_Bus_bank0Place ((S.1 3) + r1)), S2))
def f_Opd_place (S : Sc) (x1 : Int32) : Int32 × Sc := if x1 = (1 : Int32) then (bn (f_Opd_direct S (S.1 1)) (fun r2 S3 => bn (f_Bus_readWord S3 r2) (fun r5 S6 => ((f_Opd_inDataBank S6 r5 (0 : Int32)), S6)))) else (if x1 = (2 : Int32) then (((0 : Int32), S)) else (if x1 = (3 : Int32) then (bn (f_Opd_onStack S) (fun r10 S11 => (r10, S11))) else (if x1 = (4 : Int32) then (((0 : Int32), S)) else (if x1 = (5 : Int32) then (bn (f_Opd_direct S (0 : Int32)) (fun r15 S16 => (r15, S16))) else (if x1 = (6 : Int32) then (((0 : Int32), S)) else (if x1 = (7 : Int32) then (bn (f_Opd_direct S (0 : Int32)) (fun r20 S21 => bn (f_Bus_readLong S21 r20) (fun r23 S24 => (r23, S24)))) else (if x1 = (8 : Int32) then (((0 : Int32), S)) else (if x1 = (9 : Int32) then (((0 : Int32), S)) else (if x1 = (10 : Int32) then (((0 : Int32), S)) else (if x1 = (11 : Int32) then (((0 : Int32), S)) else (if x1 = (12 : Int32) then (((0 : Int32), S)) else (if x1 = (13 : Int32) then (bn (f_Opd_nextWord S) (fun r32 S33 => ((f_Opd_inDataBank S33 r32 (0 : Int32)), S33))) else (if x1 = (14 : Int32) then (((0 : Int32), S)) else (if x1 = (15 : Int32) then (bn (f_Opd_nextLong S) (fun r37 S38 => (r37, S38))) else (if x1 = (16 : Int32) then (((0 : Int32), S)) else (if x1 = (17 : Int32) then (bn (f_Opd_direct S (0 : Int32)) (fun r42 S43 => bn (f_Bus_readWord S43 r42) (fun r45 S46 => ((f_Opd_inDataBank S46 r45 (S46.1 2)), S46)))) else (if x1 = (18 : Int32) then (bn (f_Opd_direct S (0 : Int32)) (fun r49 S50 => bn (f_Bus_readWord S50 r49) (fun r52 S53 => ((f_Opd_inDataBank S53 r52 (0 : Int32)), S53)))) else (if x1 = (19 : Int32) then (bn (f_Opd_onStack S) (fun r56 S57 => bn (f_Bus_readWord S57 r56) (fun r59 S60 => ((f_Opd_inDataBank S60 r59 (S60.1 2)), S60)))) else (if x1 = (20 : Int32) then (((0 : Int32), S)) else (if x1 = (21 : Int32) then (bn (f_Opd_direct S (S.1 1)) (fun r64 S65 => (r64, S65))) else (if x1 = (22 : Int32) then (((0 : Int32), S)) else (if x1 = (23 : Int32) then (bn (f_Opd_direct S (0 : Int32)) (fun r69 S70 => bn (f_Bus_readLong S70 r69) (fun r72 S73 => ((f_Bus_longPlace (r72 + (S73.1 2))), S73)))) else (if x1 = (24 : Int32) then (((0 : Int32), S)) else (if x1 = (25 : Int32) then (bn (f_Opd_nextWord S) (fun r77 S78 => ((f_Opd_inDataBank S78 r77 (S78.1 2)), S78))) else (if x1 = (26 : Int32) then (((0 : Int32), S)) else (if x1 = (27 : Int32) then (((0 : Int32), S)) else (if x1 = (28 : Int32) then (((0 : Int32), S)) else (if x1 = (29 : Int32) then (bn (f_Opd_nextWord S) (fun r84 S85 => ((f_Opd_inDataBank S85 r84 (S85.1 1)), S85))) else (if x1 = (30 : Int32) then (((0 : Int32), S)) else (if x1 = (31 : Int32) then (bn (f_Opd_nextLong S) (fun r89 S90 => ((f_Bus_longPlace (r89 + (S90.1 1))), S90))) else (((0 : Int32), S))))))))))))))))))))))))))))))))
def f_Bus_writeValue (S : Sc) (x1 x2 x3 : Int32) : Sc := bs (f_Bus_writeByte S x1 x2) (fun S1 => if x3 = (0 : Int32) then (S1) else (bs (f_Bus_writeByte S1 (f_Bus_placeAfter x1) (x2 >>> ((8 : Int32) &&& 31))) (fun S4 => S4)))
def f_Opd_nextValue (S : Sc) (x1 : Int32) : Int32 × Sc := if x1 = (0 : Int32) then (bn (f_Opd_nextByte S) (fun r2 S3 => (r2, S3))) else (bn (f_Opd_nextWord S) (fun r5 S6 => (r5, S6)))
def f_Bus_readValue (S : Sc) (x1 x2 : Int32) : Int32 × Sc := if x2 = (0 : Int32) then (bn (f_Bus_readByte S x1) (fun r2 S3 => (r2, S3))) else (bn (f_Bus_readWord S x1) (fun r5 S6 => (r5, S6)))
def f_Reg_a (S : Sc) : Int32 := ((S.1 0) &&& (f_Reg_maskOf (f_Reg_wideA S)))
def f_Reg_signOf (x0 : Int32) : Int32 := if x0 = (0 : Int32) then ((128 : Int32)) else ((32768 : Int32))
def f_Reg_showResult (S : Sc) (x1 x2 : Int32) : Sc := if (x1 &&& (f_Reg_signOf x2)) = (0 : Int32) then (if x1 = (0 : Int32) then ((pr S 8 (((((S.1 8) &&& (-131 : Int32)) ||| (0 : Int32)) ||| (2 : Int32))))) else ((pr S 8 (((((S.1 8) &&& (-131 : Int32)) ||| (0 : Int32)) ||| (0 : Int32)))))) else (if x1 = (0 : Int32) then ((pr S 8 (((((S.1 8) &&& (-131 : Int32)) ||| (128 : Int32)) ||| (2 : Int32))))) else ((pr S 8 (((((S.1 8) &&& (-131 : Int32)) ||| (128 : Int32)) ||| (0 : Int32))))))
def f_Reg_loadA (S : Sc) (x1 : Int32) : Sc := bs (f_Reg_showResult (pr S 0 ((((S.1 0) &&& ((f_Reg_maskOf (f_Reg_wideA S)) ^^^ (-1 : Int32))) ||| (x1 &&& (f_Reg_maskOf (f_Reg_wideA S)))))) (x1 &&& (f_Reg_maskOf (f_Reg_wideA S))) (f_Reg_wideA (pr S 0 ((((S.1 0) &&& ((f_Reg_maskOf (f_Reg_wideA S)) ^^^ (-1 : Int32))) ||| (x1 &&& (f_Reg_maskOf (f_Reg_wideA S)))))))) (fun S1 => S1)
def f_Prc_addToA (S : Sc) (x1 : Int32) : Sc := if (((((f_Reg_a S) ^^^ x1) ^^^ (-1 : Int32)) &&& ((f_Reg_a S) ^^^ (((f_Reg_a S) + x1) + ((S.1 8) &&& (1 : Int32))))) &&& (f_Reg_signOf (f_Reg_wideA S))) = (0 : Int32) then (bs (f_Reg_putFlag S (64 : Int32) (0 : Int32)) (fun S2 => if (((f_Reg_a S) + x1) + ((S.1 8) &&& (1 : Int32))) ≤ (f_Reg_maskOf (f_Reg_wideA S)) then (bs (f_Reg_putFlag S2 (1 : Int32) (0 : Int32)) (fun S5 => bs (f_Reg_loadA S5 (((f_Reg_a S) + x1) + ((S.1 8) &&& (1 : Int32)))) (fun S7 => S7))) else (bs (f_Reg_putFlag S2 (1 : Int32) (1 : Int32)) (fun S9 => bs (f_Reg_loadA S9 (((f_Reg_a S) + x1) + ((S.1 8) &&& (1 : Int32)))) (fun S11 => S11))))) else (bs (f_Reg_putFlag S (64 : Int32) (1 : Int32)) (fun S13 => if (((f_Reg_a S) + x1) + ((S.1 8) &&& (1 : Int32))) ≤ (f_Reg_maskOf (f_Reg_wideA S)) then (bs (f_Reg_putFlag S13 (1 : Int32) (0 : Int32)) (fun S16 => bs (f_Reg_loadA S16 (((f_Reg_a S) + x1) + ((S.1 8) &&& (1 : Int32)))) (fun S18 => S18))) else (bs (f_Reg_putFlag S13 (1 : Int32) (1 : Int32)) (fun S20 => bs (f_Reg_loadA S20 (((f_Reg_a S) + x1) + ((S.1 8) &&& (1 : Int32)))) (fun S22 => S22)))))
def f_Prc_compare (S : Sc) (x1 x2 x3 : Int32) : Sc := if x1 < x2 then (bs (f_Reg_putFlag S (1 : Int32) (0 : Int32)) (fun S2 => bs (f_Reg_showResult S2 ((x1 - x2) &&& (f_Reg_maskOf x3)) x3) (fun S4 => S4))) else (bs (f_Reg_putFlag S (1 : Int32) (1 : Int32)) (fun S6 => bs (f_Reg_showResult S6 ((x1 - x2) &&& (f_Reg_maskOf x3)) x3) (fun S8 => S8)))
def f_Prc_useAccumulator (S : Sc) (x1 : Int32) : Int32 × Sc := if (f_Opd_isMode (x1 &&& (31 : Int32))) = (0 : Int32) then (((0 : Int32), S)) else (if x1 = (137 : Int32) then (((0 : Int32), S)) else (if (x1 >>> ((5 : Int32) &&& 31)) = (4 : Int32) then (bn (f_Opd_place S (x1 &&& (31 : Int32))) (fun r56 S57 => bs (f_Bus_writeValue S57 r56 (S57.1 0) (f_Reg_wideA S)) (fun S59 => ((1 : Int32), S59)))) else (if (x1 &&& (31 : Int32)) = (9 : Int32) then (bn (f_Opd_nextValue S (f_Reg_wideA S)) (fun r32 S33 => if (x1 >>> ((5 : Int32) &&& 31)) = (0 : Int32) then (bs (f_Reg_loadA S33 ((f_Reg_a S33) ||| r32)) (fun S36 => ((1 : Int32), S36))) else (if (x1 >>> ((5 : Int32) &&& 31)) = (1 : Int32) then (bs (f_Reg_loadA S33 ((f_Reg_a S33) &&& r32)) (fun S39 => ((1 : Int32), S39))) else (if (x1 >>> ((5 : Int32) &&& 31)) = (2 : Int32) then (bs (f_Reg_loadA S33 ((f_Reg_a S33) ^^^ r32)) (fun S42 => ((1 : Int32), S42))) else (if (x1 >>> ((5 : Int32) &&& 31)) = (3 : Int32) then (bs (f_Prc_addToA S33 r32) (fun S45 => ((1 : Int32), S45))) else (if (x1 >>> ((5 : Int32) &&& 31)) = (5 : Int32) then (bs (f_Reg_loadA S33 r32) (fun S48 => ((1 : Int32), S48))) else (if (x1 >>> ((5 : Int32) &&& 31)) = (6 : Int32) then (bs (f_Prc_compare S33 (f_Reg_a S33) r32 (f_Reg_wideA S)) (fun S51 => ((1 : Int32), S51))) else (if (x1 >>> ((5 : Int32) &&& 31)) = (7 : Int32) then (bs (f_Prc_addToA S33 ((r32 ^^^ (-1 : Int32)) &&& (f_Reg_maskOf (f_Reg_wideA S)))) (fun S54 => ((1 : Int32), S54))) else (((0 : Int32), S33)))))))))) else (bn (f_Opd_place S (x1 &&& (31 : Int32))) (fun r5 S6 => bn (f_Bus_readValue S6 r5 (f_Reg_wideA S)) (fun r8 S9 => if (x1 >>> ((5 : Int32) &&& 31)) = (0 : Int32) then (bs (f_Reg_loadA S9 ((f_Reg_a S9) ||| r8)) (fun S12 => ((1 : Int32), S12))) else (if (x1 >>> ((5 : Int32) &&& 31)) = (1 : Int32) then (bs (f_Reg_loadA S9 ((f_Reg_a S9) &&& r8)) (fun S15 => ((1 : Int32), S15))) else (if (x1 >>> ((5 : Int32) &&& 31)) = (2 : Int32) then (bs (f_Reg_loadA S9 ((f_Reg_a S9) ^^^ r8)) (fun S18 => ((1 : Int32), S18))) else (if (x1 >>> ((5 : Int32) &&& 31)) = (3 : Int32) then (bs (f_Prc_addToA S9 r8) (fun S21 => ((1 : Int32), S21))) else (if (x1 >>> ((5 : Int32) &&& 31)) = (5 : Int32) then (bs (f_Reg_loadA S9 r8) (fun S24 => ((1 : Int32), S24))) else (if (x1 >>> ((5 : Int32) &&& 31)) = (6 : Int32) then (bs (f_Prc_compare S9 (f_Reg_a S9) r8 (f_Reg_wideA S)) (fun S27 => ((1 : Int32), S27))) else (if (x1 >>> ((5 : Int32) &&& 31)) = (7 : Int32) then (bs (f_Prc_addToA S9 ((r8 ^^^ (-1 : Int32)) &&& (f_Reg_maskOf (f_Reg_wideA S)))) (fun S30 => ((1 : Int32), S30))) else (((0 : Int32), S9))))))))))))))
def f_Reg_loadX (S : Sc) (x1 : Int32) : Sc := bs (f_Reg_showResult (pr S 1 ((x1 &&& (f_Reg_indexMask S)))) (x1 &&& (f_Reg_indexMask S)) (f_Reg_wideIndex (pr S 1 ((x1 &&& (f_Reg_indexMask S)))))) (fun S1 => S1)
def f_Reg_loadY (S : Sc) (x1 : Int32) : Sc := bs (f_Reg_showResult (pr S 2 ((x1 &&& (f_Reg_indexMask S)))) (x1 &&& (f_Reg_indexMask S)) (f_Reg_wideIndex (pr S 2 ((x1 &&& (f_Reg_indexMask S)))))) (fun S1 => S1)
def f_Prc_useIndex (S : Sc) (x1 : Int32) : Int32 × Sc := if x1 = (132 : Int32) then (bn (f_Opd_place S (5 : Int32)) (fun r2 S3 => bs (f_Bus_writeValue S3 r2 (S3.1 2) (f_Reg_wideIndex S)) (fun S5 => ((1 : Int32), S5)))) else (if x1 = (134 : Int32) then (bn (f_Opd_place S (5 : Int32)) (fun r8 S9 => bs (f_Bus_writeValue S9 r8 (S9.1 1) (f_Reg_wideIndex S)) (fun S11 => ((1 : Int32), S11)))) else (if x1 = (140 : Int32) then (bn (f_Opd_place S (13 : Int32)) (fun r14 S15 => bs (f_Bus_writeValue S15 r14 (S15.1 2) (f_Reg_wideIndex S)) (fun S17 => ((1 : Int32), S17)))) else (if x1 = (142 : Int32) then (bn (f_Opd_place S (13 : Int32)) (fun r20 S21 => bs (f_Bus_writeValue S21 r20 (S21.1 1) (f_Reg_wideIndex S)) (fun S23 => ((1 : Int32), S23)))) else (if x1 = (160 : Int32) then (bn (f_Opd_nextValue S (f_Reg_wideIndex S)) (fun r26 S27 => bs (f_Reg_loadY S27 r26) (fun S29 => ((1 : Int32), S29)))) else (if x1 = (162 : Int32) then (bn (f_Opd_nextValue S (f_Reg_wideIndex S)) (fun r32 S33 => bs (f_Reg_loadX S33 r32) (fun S35 => ((1 : Int32), S35)))) else (if x1 = (164 : Int32) then (bn (f_Opd_place S (5 : Int32)) (fun r38 S39 => bn (f_Bus_readValue S39 r38 (f_Reg_wideIndex S)) (fun r41 S42 => bs (f_Reg_loadY S42 r41) (fun S44 => ((1 : Int32), S44))))) else (if x1 = (166 : Int32) then (bn (f_Opd_place S (5 : Int32)) (fun r47 S48 => bn (f_Bus_readValue S48 r47 (f_Reg_wideIndex S)) (fun r50 S51 => bs (f_Reg_loadX S51 r50) (fun S53 => ((1 : Int32), S53))))) else (if x1 = (172 : Int32) then (bn (f_Opd_place S (13 : Int32)) (fun r56 S57 => bn (f_Bus_readValue S57 r56 (f_Reg_wideIndex S)) (fun r59 S60 => bs (f_Reg_loadY S60 r59) (fun S62 => ((1 : Int32), S62))))) else (if x1 = (174 : Int32) then (bn (f_Opd_place S (13 : Int32)) (fun r65 S66 => bn (f_Bus_readValue S66 r65 (f_Reg_wideIndex S)) (fun r68 S69 => bs (f_Reg_loadX S69 r68) (fun S71 => ((1 : Int32), S71))))) else (if x1 = (192 : Int32) then (bn (f_Opd_nextValue S (f_Reg_wideIndex S)) (fun r74 S75 => bs (f_Prc_compare S75 (S.1 2) r74 (f_Reg_wideIndex S)) (fun S77 => ((1 : Int32), S77)))) else (if x1 = (224 : Int32) then (bn (f_Opd_nextValue S (f_Reg_wideIndex S)) (fun r80 S81 => bs (f_Prc_compare S81 (S.1 1) r80 (f_Reg_wideIndex S)) (fun S83 => ((1 : Int32), S83)))) else (((0 : Int32), S)))))))))))))
def f_Prc_storeZero (S : Sc) (x1 : Int32) : Int32 × Sc := if x1 = (100 : Int32) then (bn (f_Opd_place S (5 : Int32)) (fun r2 S3 => bs (f_Bus_writeValue S3 r2 (0 : Int32) (f_Reg_wideA S3)) (fun S5 => ((1 : Int32), S5)))) else (if x1 = (156 : Int32) then (bn (f_Opd_place S (13 : Int32)) (fun r8 S9 => bs (f_Bus_writeValue S9 r8 (0 : Int32) (f_Reg_wideA S9)) (fun S11 => ((1 : Int32), S11)))) else (((0 : Int32), S)))
def f_Prc_changed (S : Sc) (x1 x2 x3 : Int32) : Int32 × Sc := if x1 = (0 : Int32) then (if (x2 &&& (f_Reg_signOf x3)) = (0 : Int32) then (bs (f_Reg_putFlag S (1 : Int32) (0 : Int32)) (fun S3 => (((x2 <<< ((1 : Int32) &&& 31)) &&& (f_Reg_maskOf x3)), S3))) else (bs (f_Reg_putFlag S (1 : Int32) (1 : Int32)) (fun S5 => (((x2 <<< ((1 : Int32) &&& 31)) &&& (f_Reg_maskOf x3)), S5)))) else (if x1 = (1 : Int32) then (if (x2 &&& (f_Reg_signOf x3)) = (0 : Int32) then (bs (f_Reg_putFlag S (1 : Int32) (0 : Int32)) (fun S9 => if (f_Reg_has S (1 : Int32)) = (0 : Int32) then (((((x2 <<< ((1 : Int32) &&& 31)) &&& (f_Reg_maskOf x3)) ||| (0 : Int32)), S9)) else (((((x2 <<< ((1 : Int32) &&& 31)) &&& (f_Reg_maskOf x3)) ||| (1 : Int32)), S9)))) else (bs (f_Reg_putFlag S (1 : Int32) (1 : Int32)) (fun S12 => if (f_Reg_has S (1 : Int32)) = (0 : Int32) then (((((x2 <<< ((1 : Int32) &&& 31)) &&& (f_Reg_maskOf x3)) ||| (0 : Int32)), S12)) else (((((x2 <<< ((1 : Int32) &&& 31)) &&& (f_Reg_maskOf x3)) ||| (1 : Int32)), S12))))) else (if x1 = (2 : Int32) then (if (x2 &&& (1 : Int32)) = (0 : Int32) then (bs (f_Reg_putFlag S (1 : Int32) (0 : Int32)) (fun S17 => ((x2 >>> ((1 : Int32) &&& 31)), S17))) else (bs (f_Reg_putFlag S (1 : Int32) (1 : Int32)) (fun S19 => ((x2 >>> ((1 : Int32) &&& 31)), S19)))) else (if x1 = (3 : Int32) then (if (x2 &&& (1 : Int32)) = (0 : Int32) then (bs (f_Reg_putFlag S (1 : Int32) (0 : Int32)) (fun S23 => if (f_Reg_has S (1 : Int32)) = (0 : Int32) then ((((x2 >>> ((1 : Int32) &&& 31)) ||| (0 : Int32)), S23)) else ((((x2 >>> ((1 : Int32) &&& 31)) ||| (f_Reg_signOf x3)), S23)))) else (bs (f_Reg_putFlag S (1 : Int32) (1 : Int32)) (fun S26 => if (f_Reg_has S (1 : Int32)) = (0 : Int32) then ((((x2 >>> ((1 : Int32) &&& 31)) ||| (0 : Int32)), S26)) else ((((x2 >>> ((1 : Int32) &&& 31)) ||| (f_Reg_signOf x3)), S26))))) else (if x1 = (4 : Int32) then ((x2, S)) else (if x1 = (5 : Int32) then ((x2, S)) else (if x1 = (6 : Int32) then ((((x2 - (1 : Int32)) &&& (f_Reg_maskOf x3)), S)) else (if x1 = (7 : Int32) then ((((x2 + (1 : Int32)) &&& (f_Reg_maskOf x3)), S)) else ((x2, S)))))))))
def f_Prc_changeMemory (S : Sc) (x1 : Int32) : Int32 × Sc := if x1 = (6 : Int32) then (bn (f_Opd_place S (5 : Int32)) (fun r2 S3 => bn (f_Bus_readValue S3 r2 (f_Reg_wideA S)) (fun r5 S6 => bn (f_Prc_changed S6 (x1 >>> ((5 : Int32) &&& 31)) r5 (f_Reg_wideA S)) (fun r8 S9 => bs (f_Reg_showResult S9 r8 (f_Reg_wideA S)) (fun S11 => bs (f_Bus_writeValue S11 r2 r8 (f_Reg_wideA S)) (fun S13 => ((1 : Int32), S13))))))) else (if x1 = (38 : Int32) then (bn (f_Opd_place S (5 : Int32)) (fun r16 S17 => bn (f_Bus_readValue S17 r16 (f_Reg_wideA S)) (fun r19 S20 => bn (f_Prc_changed S20 (x1 >>> ((5 : Int32) &&& 31)) r19 (f_Reg_wideA S)) (fun r22 S23 => bs (f_Reg_showResult S23 r22 (f_Reg_wideA S)) (fun S25 => bs (f_Bus_writeValue S25 r16 r22 (f_Reg_wideA S)) (fun S27 => ((1 : Int32), S27))))))) else (if x1 = (70 : Int32) then (bn (f_Opd_place S (5 : Int32)) (fun r30 S31 => bn (f_Bus_readValue S31 r30 (f_Reg_wideA S)) (fun r33 S34 => bn (f_Prc_changed S34 (x1 >>> ((5 : Int32) &&& 31)) r33 (f_Reg_wideA S)) (fun r36 S37 => bs (f_Reg_showResult S37 r36 (f_Reg_wideA S)) (fun S39 => bs (f_Bus_writeValue S39 r30 r36 (f_Reg_wideA S)) (fun S41 => ((1 : Int32), S41))))))) else (if x1 = (102 : Int32) then (bn (f_Opd_place S (5 : Int32)) (fun r44 S45 => bn (f_Bus_readValue S45 r44 (f_Reg_wideA S)) (fun r47 S48 => bn (f_Prc_changed S48 (x1 >>> ((5 : Int32) &&& 31)) r47 (f_Reg_wideA S)) (fun r50 S51 => bs (f_Reg_showResult S51 r50 (f_Reg_wideA S)) (fun S53 => bs (f_Bus_writeValue S53 r44 r50 (f_Reg_wideA S)) (fun S55 => ((1 : Int32), S55))))))) else (if x1 = (198 : Int32) then (bn (f_Opd_place S (5 : Int32)) (fun r58 S59 => bn (f_Bus_readValue S59 r58 (f_Reg_wideA S)) (fun r61 S62 => bn (f_Prc_changed S62 (x1 >>> ((5 : Int32) &&& 31)) r61 (f_Reg_wideA S)) (fun r64 S65 => bs (f_Reg_showResult S65 r64 (f_Reg_wideA S)) (fun S67 => bs (f_Bus_writeValue S67 r58 r64 (f_Reg_wideA S)) (fun S69 => ((1 : Int32), S69))))))) else (if x1 = (206 : Int32) then (bn (f_Opd_place S (13 : Int32)) (fun r72 S73 => bn (f_Bus_readValue S73 r72 (f_Reg_wideA S)) (fun r75 S76 => bn (f_Prc_changed S76 (x1 >>> ((5 : Int32) &&& 31)) r75 (f_Reg_wideA S)) (fun r78 S79 => bs (f_Reg_showResult S79 r78 (f_Reg_wideA S)) (fun S81 => bs (f_Bus_writeValue S81 r72 r78 (f_Reg_wideA S)) (fun S83 => ((1 : Int32), S83))))))) else (if x1 = (230 : Int32) then (bn (f_Opd_place S (5 : Int32)) (fun r86 S87 => bn (f_Bus_readValue S87 r86 (f_Reg_wideA S)) (fun r89 S90 => bn (f_Prc_changed S90 (x1 >>> ((5 : Int32) &&& 31)) r89 (f_Reg_wideA S)) (fun r92 S93 => bs (f_Reg_showResult S93 r92 (f_Reg_wideA S)) (fun S95 => bs (f_Bus_writeValue S95 r86 r92 (f_Reg_wideA S)) (fun S97 => ((1 : Int32), S97))))))) else (if x1 = (238 : Int32) then (bn (f_Opd_place S (13 : Int32)) (fun r100 S101 => bn (f_Bus_readValue S101 r100 (f_Reg_wideA S)) (fun r103 S104 => bn (f_Prc_changed S104 (x1 >>> ((5 : Int32) &&& 31)) r103 (f_Reg_wideA S)) (fun r106 S107 => bs (f_Reg_showResult S107 r106 (f_Reg_wideA S)) (fun S109 => bs (f_Bus_writeValue S109 r100 r106 (f_Reg_wideA S)) (fun S111 => ((1 : Int32), S111))))))) else (((0 : Int32), S)))))))))
def f_Prc_changeRegister (S : Sc) (x1 : Int32) : Int32 × Sc := if x1 = (10 : Int32) then (bn (f_Prc_changed S (x1 >>> ((5 : Int32) &&& 31)) (f_Reg_a S) (f_Reg_wideA S)) (fun r2 S3 => bs (f_Reg_loadA S3 r2) (fun S5 => ((1 : Int32), S5)))) else (if x1 = (26 : Int32) then (bn (f_Prc_changed S (7 : Int32) (f_Reg_a S) (f_Reg_wideA S)) (fun r8 S9 => bs (f_Reg_loadA S9 r8) (fun S11 => ((1 : Int32), S11)))) else (if x1 = (42 : Int32) then (bn (f_Prc_changed S (x1 >>> ((5 : Int32) &&& 31)) (f_Reg_a S) (f_Reg_wideA S)) (fun r14 S15 => bs (f_Reg_loadA S15 r14) (fun S17 => ((1 : Int32), S17)))) else (if x1 = (58 : Int32) then (bn (f_Prc_changed S (6 : Int32) (f_Reg_a S) (f_Reg_wideA S)) (fun r20 S21 => bs (f_Reg_loadA S21 r20) (fun S23 => ((1 : Int32), S23)))) else (if x1 = (74 : Int32) then (bn (f_Prc_changed S (x1 >>> ((5 : Int32) &&& 31)) (f_Reg_a S) (f_Reg_wideA S)) (fun r26 S27 => bs (f_Reg_loadA S27 r26) (fun S29 => ((1 : Int32), S29)))) else (if x1 = (106 : Int32) then (bn (f_Prc_changed S (x1 >>> ((5 : Int32) &&& 31)) (f_Reg_a S) (f_Reg_wideA S)) (fun r32 S33 => bs (f_Reg_loadA S33 r32) (fun S35 => ((1 : Int32), S35)))) else (if x1 = (136 : Int32) then (bs (f_Reg_loadY S ((S.1 2) - (1 : Int32))) (fun S38 => ((1 : Int32), S38))) else (if x1 = (200 : Int32) then (bs (f_Reg_loadY S ((S.1 2) + (1 : Int32))) (fun S41 => ((1 : Int32), S41))) else (if x1 = (202 : Int32) then (bs (f_Reg_loadX S ((S.1 1) - (1 : Int32))) (fun S44 => ((1 : Int32), S44))) else (if x1 = (232 : Int32) then (bs (f_Reg_loadX S ((S.1 1) + (1 : Int32))) (fun S47 => ((1 : Int32), S47))) else (((0 : Int32), S)))))))))))
def f_Reg_loadD (S : Sc) (x1 : Int32) : Sc := bs (f_Reg_showResult (pr S 4 (x1)) x1 (1 : Int32)) (fun S1 => S1)
def f_Reg_loadC (S : Sc) (x1 : Int32) : Sc := bs (f_Reg_showResult (pr S 0 (x1)) x1 (1 : Int32)) (fun S1 => S1)
def f_Prc_transfer (S : Sc) (x1 : Int32) : Int32 × Sc := if x1 = (27 : Int32) then (((1 : Int32), (pr S 3 (S.1 0)))) else (if x1 = (59 : Int32) then (bs (f_Reg_loadC S (S.1 3)) (fun S3 => ((1 : Int32), S3))) else (if x1 = (91 : Int32) then (bs (f_Reg_loadD S (S.1 0)) (fun S6 => ((1 : Int32), S6))) else (if x1 = (123 : Int32) then (bs (f_Reg_loadC S (S.1 4)) (fun S9 => ((1 : Int32), S9))) else (if x1 = (138 : Int32) then (bs (f_Reg_loadA S (S.1 1)) (fun S12 => ((1 : Int32), S12))) else (if x1 = (152 : Int32) then (bs (f_Reg_loadA S (S.1 2)) (fun S15 => ((1 : Int32), S15))) else (if x1 = (154 : Int32) then (((1 : Int32), (pr S 3 (S.1 1)))) else (if x1 = (155 : Int32) then (bs (f_Reg_loadY S (S.1 1)) (fun S19 => ((1 : Int32), S19))) else (if x1 = (168 : Int32) then (bs (f_Reg_loadY S (S.1 0)) (fun S22 => ((1 : Int32), S22))) else (if x1 = (170 : Int32) then (bs (f_Reg_loadX S (S.1 0)) (fun S25 => ((1 : Int32), S25))) else (if x1 = (186 : Int32) then (bs (f_Reg_loadX S (S.1 3)) (fun S28 => ((1 : Int32), S28))) else (if x1 = (187 : Int32) then (bs (f_Reg_loadX S (S.1 2)) (fun S31 => ((1 : Int32), S31))) else (if x1 = (235 : Int32) then (bs (f_Reg_showResult (pr S 0 ((((S.1 0) >>> ((8 : Int32) &&& 31)) ||| (((S.1 0) &&& (255 : Int32)) <<< ((8 : Int32) &&& 31))))) ((((S.1 0) >>> ((8 : Int32) &&& 31)) ||| (((S.1 0) &&& (255 : Int32)) <<< ((8 : Int32) &&& 31))) &&& (255 : Int32)) (0 : Int32)) (fun S34 => ((1 : Int32), S34))) else (((0 : Int32), S))))))))))))))
def f_Stk_pushValue (S : Sc) (x1 x2 : Int32) : Sc := if x2 = (0 : Int32) then (bs (f_Stk_pushByte S x1) (fun S2 => S2)) else (bs (f_Stk_pushByte S (x1 >>> ((8 : Int32) &&& 31))) (fun S4 => bs (f_Stk_pushByte S4 x1) (fun S6 => S6)))
def f_Prc_push (S : Sc) (x1 : Int32) : Int32 × Sc := if x1 = (8 : Int32) then (bs (f_Stk_pushByte S (S.1 8)) (fun S2 => ((1 : Int32), S2))) else (if x1 = (11 : Int32) then (bs (f_Stk_pushWord S (S.1 4)) (fun S5 => ((1 : Int32), S5))) else (if x1 = (72 : Int32) then (bs (f_Stk_pushValue S (S.1 0) (f_Reg_wideA S)) (fun S8 => ((1 : Int32), S8))) else (if x1 = (75 : Int32) then (bs (f_Stk_pushByte S (S.1 6)) (fun S11 => ((1 : Int32), S11))) else (if x1 = (90 : Int32) then (bs (f_Stk_pushValue S (S.1 2) (f_Reg_wideIndex S)) (fun S14 => ((1 : Int32), S14))) else (if x1 = (139 : Int32) then (bs (f_Stk_pushByte S (S.1 5)) (fun S17 => ((1 : Int32), S17))) else (if x1 = (218 : Int32) then (bs (f_Stk_pushValue S (S.1 1) (f_Reg_wideIndex S)) (fun S20 => ((1 : Int32), S20))) else (if x1 = (244 : Int32) then (bn (f_Opd_nextWord S) (fun r23 S24 => bs (f_Stk_pushWord S24 r23) (fun S26 => ((1 : Int32), S26)))) else (((0 : Int32), S)))))))))
def f_Stk_pullByte (S : Sc) : Int32 × Sc := bn (f_Bus_readByte (pr S 3 ((((S.1 3) + (1 : Int32)) &&& (65535 : Int32)))) (f_Bus_bank0Place (((S.1 3) + (1 : Int32)) &&& (65535 : Int32)))) (fun r1 S2 => (r1, S2))
def f_Stk_pullWord (S : Sc) : Int32 × Sc := bn (f_Stk_pullByte S) (fun r1 S2 => bn (f_Stk_pullByte S2) (fun r4 S5 => ((r1 ||| (r4 <<< ((8 : Int32) &&& 31))), S5)))
def f_Stk_pullValue (S : Sc) (x1 : Int32) : Int32 × Sc := if x1 = (0 : Int32) then (bn (f_Stk_pullByte S) (fun r2 S3 => (r2, S3))) else (bn (f_Stk_pullWord S) (fun r5 S6 => (r5, S6)))
def f_Reg_loadDataBank (S : Sc) (x1 : Int32) : Sc := bs (f_Reg_showResult (pr S 5 (x1)) x1 (0 : Int32)) (fun S1 => S1)
def f_Prc_pull (S : Sc) (x1 : Int32) : Int32 × Sc := if x1 = (40 : Int32) then (bn (f_Stk_pullByte S) (fun r2 S3 => bs (f_Reg_replaceP S3 r2) (fun S5 => ((1 : Int32), S5)))) else (if x1 = (43 : Int32) then (bn (f_Stk_pullWord S) (fun r8 S9 => bs (f_Reg_loadD S9 r8) (fun S11 => ((1 : Int32), S11)))) else (if x1 = (104 : Int32) then (bn (f_Stk_pullValue S (f_Reg_wideA S)) (fun r14 S15 => bs (f_Reg_loadA S15 r14) (fun S17 => ((1 : Int32), S17)))) else (if x1 = (122 : Int32) then (bn (f_Stk_pullValue S (f_Reg_wideIndex S)) (fun r20 S21 => bs (f_Reg_loadY S21 r20) (fun S23 => ((1 : Int32), S23)))) else (if x1 = (171 : Int32) then (bn (f_Stk_pullByte S) (fun r26 S27 => bs (f_Reg_loadDataBank S27 r26) (fun S29 => ((1 : Int32), S29)))) else (if x1 = (250 : Int32) then (bn (f_Stk_pullValue S (f_Reg_wideIndex S)) (fun r32 S33 => bs (f_Reg_loadX S33 r32) (fun S35 => ((1 : Int32), S35)))) else (((0 : Int32), S)))))))
def f_Reg_jumpTo (S : Sc) (x1 : Int32) : Sc := (pr S 7 ((x1 &&& (65535 : Int32))))
def f_Prc_branch (S : Sc) (x1 : Int32) : Int32 × Sc := if x1 = (130 : Int32) then (bn (f_Opd_nextWord S) (fun r19 S20 => bs (f_Reg_jumpTo S20 ((S20.1 7) + r19)) (fun S22 => ((1 : Int32), S22)))) else (if x1 = (128 : Int32) then (bn (f_Opd_nextByte S) (fun r14 S15 => bs (f_Reg_jumpTo S15 ((S15.1 7) + ((r14).toInt8.toInt32))) (fun S17 => ((1 : Int32), S17)))) else (if (x1 &&& (31 : Int32)) = (16 : Int32) then (bn (f_Opd_nextByte S) (fun r4 S5 => if (x1 &&& (32 : Int32)) = (0 : Int32) then (if (f_Reg_has S5 (bf ((x1 >>> ((6 : Int32) &&& 31))).toNatClampNeg)) = (0 : Int32) then (bs (f_Reg_jumpTo S5 ((S5.1 7) + ((r4).toInt8.toInt32))) (fun S9 => ((1 : Int32), S9))) else (((1 : Int32), S5))) else (if (f_Reg_has S5 (bf ((x1 >>> ((6 : Int32) &&& 31))).toNatClampNeg)) = (1 : Int32) then (bs (f_Reg_jumpTo S5 ((S5.1 7) + ((r4).toInt8.toInt32))) (fun S12 => ((1 : Int32), S12))) else (((1 : Int32), S5))))) else (((0 : Int32), S))))
def f_Reg_jumpLong (S : Sc) (x1 : Int32) : Sc := (pr (pr S 6 ((x1 >>> ((16 : Int32) &&& 31)))) 7 ((x1 &&& (65535 : Int32))))
def f_Prc_jump (S : Sc) (x1 : Int32) : Int32 × Sc := if x1 = (32 : Int32) then (bn (f_Opd_nextWord S) (fun r2 S3 => bs (f_Stk_pushWord S3 (((S3.1 7) - (1 : Int32)) &&& (65535 : Int32))) (fun S5 => bs (f_Reg_jumpTo S5 r2) (fun S7 => ((1 : Int32), S7))))) else (if x1 = (34 : Int32) then (bn (f_Opd_nextLong S) (fun r10 S11 => bs (f_Stk_pushByte S11 (S11.1 6)) (fun S13 => bs (f_Stk_pushWord S13 (((S13.1 7) - (1 : Int32)) &&& (65535 : Int32))) (fun S15 => bs (f_Reg_jumpLong S15 r10) (fun S17 => ((1 : Int32), S17)))))) else (if x1 = (64 : Int32) then (bn (f_Stk_pullByte S) (fun r20 S21 => bs (f_Reg_replaceP S21 r20) (fun S23 => bn (f_Stk_pullWord S23) (fun r25 S26 => bs (f_Reg_jumpTo S26 r25) (fun S28 => bn (f_Stk_pullByte S28) (fun r30 S31 => ((1 : Int32), (pr S31 6 (r30))))))))) else (if x1 = (76 : Int32) then (bn (f_Opd_nextWord S) (fun r34 S35 => bs (f_Reg_jumpTo S35 r34) (fun S37 => ((1 : Int32), S37)))) else (if x1 = (92 : Int32) then (bn (f_Opd_nextLong S) (fun r40 S41 => bs (f_Reg_jumpLong S41 r40) (fun S43 => ((1 : Int32), S43)))) else (if x1 = (96 : Int32) then (bn (f_Stk_pullWord S) (fun r46 S47 => bs (f_Reg_jumpTo S47 (r46 + (1 : Int32))) (fun S49 => ((1 : Int32), S49)))) else (if x1 = (107 : Int32) then (bn (f_Stk_pullWord S) (fun r52 S53 => bs (f_Reg_jumpTo S53 (r52 + (1 : Int32))) (fun S55 => bn (f_Stk_pullByte S55) (fun r57 S58 => ((1 : Int32), (pr S58 6 (r57))))))) else (((0 : Int32), S))))))))
def f_Prc_changeFlags (S : Sc) (x1 : Int32) : Int32 × Sc := if x1 = (24 : Int32) then (bs (f_Reg_putFlag S (1 : Int32) (0 : Int32)) (fun S2 => ((1 : Int32), S2))) else (if x1 = (56 : Int32) then (bs (f_Reg_putFlag S (1 : Int32) (1 : Int32)) (fun S5 => ((1 : Int32), S5))) else (if x1 = (88 : Int32) then (bs (f_Reg_putFlag S (4 : Int32) (0 : Int32)) (fun S8 => ((1 : Int32), S8))) else (if x1 = (120 : Int32) then (bs (f_Reg_putFlag S (4 : Int32) (1 : Int32)) (fun S11 => ((1 : Int32), S11))) else (if x1 = (184 : Int32) then (bs (f_Reg_putFlag S (64 : Int32) (0 : Int32)) (fun S14 => ((1 : Int32), S14))) else (if x1 = (194 : Int32) then (bn (f_Opd_nextByte S) (fun r17 S18 => bs (f_Reg_replaceP S18 ((S.1 8) &&& (r17 ^^^ (-1 : Int32)))) (fun S20 => ((1 : Int32), S20)))) else (if x1 = (216 : Int32) then (bs (f_Reg_putFlag S (8 : Int32) (0 : Int32)) (fun S23 => ((1 : Int32), S23))) else (if x1 = (226 : Int32) then (bn (f_Opd_nextByte S) (fun r26 S27 => bs (f_Reg_replaceP S27 ((S.1 8) ||| r26)) (fun S29 => ((1 : Int32), S29)))) else (if x1 = (234 : Int32) then (((1 : Int32), S)) else (if x1 = (248 : Int32) then (bs (f_Reg_putFlag S (8 : Int32) (1 : Int32)) (fun S33 => ((1 : Int32), S33))) else (((0 : Int32), S)))))))))))
def f_Prc_moveBlock (S : Sc) (x1 : Int32) : Int32 × Sc := if x1 = (84 : Int32) then (bn (f_Opd_nextByte S) (fun r2 S3 => bn (f_Opd_nextByte S3) (fun r5 S6 => bn (f_Bus_readByte (pr S6 5 (r2)) ((r5 <<< ((16 : Int32) &&& 31)) ||| (S6.1 1))) (fun r8 S9 => bs (f_Bus_writeByte S9 ((r2 <<< ((16 : Int32) &&& 31)) ||| (S6.1 2)) r8) (fun S11 => if S11.1 0 = (0 : Int32) then (((1 : Int32), (pr (pr (pr S11 1 ((((S11.1 1) + (1 : Int32)) &&& (f_Reg_indexMask S11)))) 2 ((((S11.1 2) + (1 : Int32)) &&& (f_Reg_indexMask (pr S11 1 ((((S11.1 1) + (1 : Int32)) &&& (f_Reg_indexMask S11)))))))) 0 ((((S11.1 0) - (1 : Int32)) &&& (65535 : Int32)))))) else (bs (f_Reg_jumpTo (pr (pr S11 1 ((((S11.1 1) + (1 : Int32)) &&& (f_Reg_indexMask S11)))) 2 ((((S11.1 2) + (1 : Int32)) &&& (f_Reg_indexMask (pr S11 1 ((((S11.1 1) + (1 : Int32)) &&& (f_Reg_indexMask S11)))))))) ((S.1 7) - (1 : Int32))) (fun S14 => ((1 : Int32), (pr S14 0 ((((S14.1 0) - (1 : Int32)) &&& (65535 : Int32)))))))))))) else (if x1 = (68 : Int32) then (bn (f_Opd_nextByte S) (fun r17 S18 => bn (f_Opd_nextByte S18) (fun r20 S21 => bn (f_Bus_readByte (pr S21 5 (r17)) ((r20 <<< ((16 : Int32) &&& 31)) ||| (S21.1 1))) (fun r23 S24 => bs (f_Bus_writeByte S24 ((r17 <<< ((16 : Int32) &&& 31)) ||| (S21.1 2)) r23) (fun S26 => if S26.1 0 = (0 : Int32) then (((1 : Int32), (pr (pr (pr S26 1 ((((S26.1 1) + (-1 : Int32)) &&& (f_Reg_indexMask S26)))) 2 ((((S26.1 2) + (-1 : Int32)) &&& (f_Reg_indexMask (pr S26 1 ((((S26.1 1) + (-1 : Int32)) &&& (f_Reg_indexMask S26)))))))) 0 ((((S26.1 0) - (1 : Int32)) &&& (65535 : Int32)))))) else (bs (f_Reg_jumpTo (pr (pr S26 1 ((((S26.1 1) + (-1 : Int32)) &&& (f_Reg_indexMask S26)))) 2 ((((S26.1 2) + (-1 : Int32)) &&& (f_Reg_indexMask (pr S26 1 ((((S26.1 1) + (-1 : Int32)) &&& (f_Reg_indexMask S26)))))))) ((S.1 7) - (1 : Int32))) (fun S29 => ((1 : Int32), (pr S29 0 ((((S29.1 0) - (1 : Int32)) &&& (65535 : Int32)))))))))))) else (((0 : Int32), S)))
def f_Prc_makeStep (S : Sc) : Sc := if S.1 10 = (0 : Int32) then (if S.1 11 = (0 : Int32) then (bn (f_Opd_nextByte (pr S 13 (((S.1 13) + (1 : Int32))))) (fun r3 S4 => if r3 = (0 : Int32) then (bn (f_Opd_nextByte S4) (fun r55 S56 => bs (f_Prc_enterInterrupt S56 (486 : Int32)) (fun S58 => S58))) else (bn (f_Prc_useAccumulator S4 r3) (fun r7 S8 => if r7 = (0 : Int32) then (bn (f_Prc_useIndex S8 r3) (fun r11 S12 => if r11 = (0 : Int32) then (bn (f_Prc_storeZero S12 r3) (fun r15 S16 => if r15 = (0 : Int32) then (bn (f_Prc_changeMemory S16 r3) (fun r19 S20 => if r19 = (0 : Int32) then (bn (f_Prc_changeRegister S20 r3) (fun r23 S24 => if r23 = (0 : Int32) then (bn (f_Prc_transfer S24 r3) (fun r27 S28 => if r27 = (0 : Int32) then (bn (f_Prc_push S28 r3) (fun r31 S32 => if r31 = (0 : Int32) then (bn (f_Prc_pull S32 r3) (fun r35 S36 => if r35 = (0 : Int32) then (bn (f_Prc_branch S36 r3) (fun r39 S40 => if r39 = (0 : Int32) then (bn (f_Prc_jump S40 r3) (fun r43 S44 => if r43 = (0 : Int32) then (bn (f_Prc_changeFlags S44 r3) (fun r47 S48 => if r47 = (0 : Int32) then (bn (f_Prc_moveBlock S48 r3) (fun r51 S52 => if r51 = (0 : Int32) then ((pr S52 12 ((1 : Int32)))) else ((pr S52 12 ((0 : Int32)))))) else ((pr S48 12 ((0 : Int32)))))) else ((pr S44 12 ((0 : Int32)))))) else ((pr S40 12 ((0 : Int32)))))) else ((pr S36 12 ((0 : Int32)))))) else ((pr S32 12 ((0 : Int32)))))) else ((pr S28 12 ((0 : Int32)))))) else ((pr S24 12 ((0 : Int32)))))) else ((pr S20 12 ((0 : Int32)))))) else ((pr S16 12 ((0 : Int32)))))) else ((pr S12 12 ((0 : Int32)))))) else ((pr S8 12 ((0 : Int32)))))))) else (if (f_Reg_has (pr S 13 (((S.1 13) + (1 : Int32)))) (4 : Int32)) = (0 : Int32) then (bs (f_Prc_enterInterrupt (pr S 13 (((S.1 13) + (1 : Int32)))) (494 : Int32)) (fun S118 => S118)) else (bn (f_Opd_nextByte (pr S 13 (((S.1 13) + (1 : Int32))))) (fun r61 S62 => if r61 = (0 : Int32) then (bn (f_Opd_nextByte S62) (fun r113 S114 => bs (f_Prc_enterInterrupt S114 (486 : Int32)) (fun S116 => S116))) else (bn (f_Prc_useAccumulator S62 r61) (fun r65 S66 => if r65 = (0 : Int32) then (bn (f_Prc_useIndex S66 r61) (fun r69 S70 => if r69 = (0 : Int32) then (bn (f_Prc_storeZero S70 r61) (fun r73 S74 => if r73 = (0 : Int32) then (bn (f_Prc_changeMemory S74 r61) (fun r77 S78 => if r77 = (0 : Int32) then (bn (f_Prc_changeRegister S78 r61) (fun r81 S82 => if r81 = (0 : Int32) then (bn (f_Prc_transfer S82 r61) (fun r85 S86 => if r85 = (0 : Int32) then (bn (f_Prc_push S86 r61) (fun r89 S90 => if r89 = (0 : Int32) then (bn (f_Prc_pull S90 r61) (fun r93 S94 => if r93 = (0 : Int32) then (bn (f_Prc_branch S94 r61) (fun r97 S98 => if r97 = (0 : Int32) then (bn (f_Prc_jump S98 r61) (fun r101 S102 => if r101 = (0 : Int32) then (bn (f_Prc_changeFlags S102 r61) (fun r105 S106 => if r105 = (0 : Int32) then (bn (f_Prc_moveBlock S106 r61) (fun r109 S110 => if r109 = (0 : Int32) then ((pr S110 12 ((1 : Int32)))) else ((pr S110 12 ((0 : Int32)))))) else ((pr S106 12 ((0 : Int32)))))) else ((pr S102 12 ((0 : Int32)))))) else ((pr S98 12 ((0 : Int32)))))) else ((pr S94 12 ((0 : Int32)))))) else ((pr S90 12 ((0 : Int32)))))) else ((pr S86 12 ((0 : Int32)))))) else ((pr S82 12 ((0 : Int32)))))) else ((pr S78 12 ((0 : Int32)))))) else ((pr S74 12 ((0 : Int32)))))) else ((pr S70 12 ((0 : Int32)))))) else ((pr S66 12 ((0 : Int32)))))))))) else (bs (f_Prc_enterInterrupt (pr (pr S 13 (((S.1 13) + (1 : Int32)))) 10 ((0 : Int32))) (490 : Int32)) (fun S120 => S120))
def f_Wc_stopped (S : Sc) : Int32 := S.1 12
def f_Wc_interrupt (S : Sc) : Int32 × Sc := if S.1 10 = (0 : Int32) then (((1 : Int32), (pr S 10 ((1 : Int32))))) else (((0 : Int32), S))
def f_Wc_line (S : Sc) (x1 : Int32) : Sc := (pr S 11 (x1))
def f_Wc_touches (S : Sc) : Int32 := S.1 9
def f_Bus_latestTouch (S : Sc) (x1 : Int32) : Int32 := (S.2.2 (((((S.1 9) - (1 : Int32)) - x1) &&& (7 : Int32))).toNatClampNeg)
def f_Wc_touched (S : Sc) (x1 : Int32) : Int32 := if x1 < (0 : Int32) then ((-1 : Int32)) else (if (8 : Int32) ≤ x1 then ((-1 : Int32)) else (if x1 < S.1 9 then ((f_Bus_latestTouch S x1)) else ((-1 : Int32))))
def f_Wc_steps (S : Sc) : Int32 := S.1 13
def f_Mdl_is (S : Sc) (x1 : Int32) : Int32 := if ((S.1 6) &&& x1) = (0 : Int32) then ((0 : Int32)) else ((1 : Int32))
def f_Mdl_flag (S : Sc) (x1 x2 : Int32) : Sc := if x2 = (0 : Int32) then ((pr S 6 (((S.1 6) &&& (x1 ^^^ (-1 : Int32)))))) else ((pr S 6 (((S.1 6) ||| x1))))
def f_Mdl_cell (x0 : Int32) : Int32 := (((512 : Int32) * ((x0 >>> ((16 : Int32) &&& 31)) &&& (1 : Int32))) + (x0 &&& (511 : Int32)))
def f_Mdl_touch (S : Sc) (x1 : Int32) : Sc := (pr (pl (pl (pl (pl (pl (pl (pl (pl S (((7 : Int32)).toNatClampNeg) ((S.2.2 (((7 : Int32) - (1 : Int32))).toNatClampNeg))) (((6 : Int32)).toNatClampNeg) ((S.2.2 5))) (((5 : Int32)).toNatClampNeg) ((S.2.2 4))) (((4 : Int32)).toNatClampNeg) ((S.2.2 3))) (((3 : Int32)).toNatClampNeg) ((S.2.2 2))) (((2 : Int32)).toNatClampNeg) ((S.2.2 1))) (((1 : Int32)).toNatClampNeg) ((S.2.2 0))) (((0 : Int32)).toNatClampNeg) (x1)) 13 (((S.1 13) + (1 : Int32))))
def f_Mdl_read (S : Sc) (x1 : Int32) : Int32 × Sc := bs (f_Mdl_touch S (f_Mdl_cell x1)) (fun S1 => ((S1.2.1 ((f_Mdl_cell x1)).toNatClampNeg), S1))
def f_Mdl_write (S : Sc) (x1 x2 : Int32) : Sc := bs (f_Mdl_touch S ((f_Mdl_cell x1) + (1024 : Int32))) (fun S1 => (pm S1 (((f_Mdl_cell x1)).toNatClampNeg) ((x2 &&& (255 : Int32)))))
def f_Mdl_after (x1 x2 : Int32) : Int32 := if x2 = (0 : Int32) then (((x1 + (1 : Int32)) &&& (16777215 : Int32))) else (((x1 &&& (16711680 : Int32)) ||| ((x1 + (1 : Int32)) &&& (65535 : Int32))))
def f_Mdl_readWord (S : Sc) (x1 x2 : Int32) : Int32 × Sc := bn (f_Mdl_read S x1) (fun r1 S2 => bn (f_Mdl_read S2 (f_Mdl_after x1 x2)) (fun r4 S5 => ((r1 ||| (r4 <<< ((8 : Int32) &&& 31))), S5)))
def f_Mdl_push (S : Sc) (x1 : Int32) : Sc := bs (f_Mdl_write S (S.1 3) x1) (fun S1 => (pr S1 3 ((((S1.1 3) - (1 : Int32)) &&& (65535 : Int32)))))
def f_Mdl_pushWord (S : Sc) (x1 : Int32) : Sc := bs (f_Mdl_push S (x1 >>> ((8 : Int32) &&& 31))) (fun S1 => bs (f_Mdl_push S1 x1) (fun S3 => S3))
def f_Mdl_pull (S : Sc) : Int32 × Sc := bn (f_Mdl_read (pr S 3 ((((S.1 3) + (1 : Int32)) &&& (65535 : Int32)))) (((S.1 3) + (1 : Int32)) &&& (65535 : Int32))) (fun r1 S2 => (r1, S2))
def f_Mdl_pullWord (S : Sc) : Int32 × Sc := bn (f_Mdl_pull S) (fun r1 S2 => bn (f_Mdl_pull S2) (fun r4 S5 => ((r1 ||| (r4 <<< ((8 : Int32) &&& 31))), S5)))
def f_Mdl_next (S : Sc) : Int32 × Sc := ((S.2.1 ((f_Mdl_cell (((S.1 7) <<< ((16 : Int32) &&& 31)) ||| (S.1 8)))).toNatClampNeg), (pr S 8 ((((S.1 8) + (1 : Int32)) &&& (65535 : Int32)))))
def f_Mdl_nextWord (S : Sc) : Int32 × Sc := bn (f_Mdl_next S) (fun r1 S2 => bn (f_Mdl_next S2) (fun r4 S5 => ((r1 ||| (r4 <<< ((8 : Int32) &&& 31))), S5)))
def f_Mdl_nextLong (S : Sc) : Int32 × Sc := bn (f_Mdl_nextWord S) (fun r1 S2 => bn (f_Mdl_next S2) (fun r4 S5 => ((r1 ||| (r4 <<< ((16 : Int32) &&& 31))), S5)))
def f_Mdl_accumulator (S : Sc) : Int32 := if (f_Mdl_is S (32 : Int32)) = (0 : Int32) then (S.1 0) else (((S.1 0) &&& (255 : Int32)))
def f_Mdl_setAccumulator (S : Sc) (x1 : Int32) : Sc := if (f_Mdl_is S (32 : Int32)) = (0 : Int32) then ((pr S 0 ((x1 &&& (65535 : Int32))))) else ((pr S 0 ((((S.1 0) &&& (65280 : Int32)) ||| (x1 &&& (255 : Int32))))))
def f_Mdl_cut (x1 x2 : Int32) : Int32 := if x2 = (0 : Int32) then ((x1 &&& (65535 : Int32))) else ((x1 &&& (255 : Int32)))
def f_Mdl_result (S : Sc) (x1 x2 : Int32) : Int32 × Sc := if x2 = (0 : Int32) then (if ((f_Mdl_cut x1 x2) &&& (32768 : Int32)) = (0 : Int32) then (bs (f_Mdl_flag S (128 : Int32) (0 : Int32)) (fun S3 => if (f_Mdl_cut x1 x2) = (0 : Int32) then (bs (f_Mdl_flag S3 (2 : Int32) (1 : Int32)) (fun S8 => ((f_Mdl_cut x1 x2), S8))) else (bs (f_Mdl_flag S3 (2 : Int32) (0 : Int32)) (fun S6 => ((f_Mdl_cut x1 x2), S6))))) else (bs (f_Mdl_flag S (128 : Int32) (1 : Int32)) (fun S10 => if (f_Mdl_cut x1 x2) = (0 : Int32) then (bs (f_Mdl_flag S10 (2 : Int32) (1 : Int32)) (fun S15 => ((f_Mdl_cut x1 x2), S15))) else (bs (f_Mdl_flag S10 (2 : Int32) (0 : Int32)) (fun S13 => ((f_Mdl_cut x1 x2), S13)))))) else (if ((f_Mdl_cut x1 x2) &&& (128 : Int32)) = (0 : Int32) then (bs (f_Mdl_flag S (128 : Int32) (0 : Int32)) (fun S18 => if (f_Mdl_cut x1 x2) = (0 : Int32) then (bs (f_Mdl_flag S18 (2 : Int32) (1 : Int32)) (fun S23 => ((f_Mdl_cut x1 x2), S23))) else (bs (f_Mdl_flag S18 (2 : Int32) (0 : Int32)) (fun S21 => ((f_Mdl_cut x1 x2), S21))))) else (bs (f_Mdl_flag S (128 : Int32) (1 : Int32)) (fun S25 => if (f_Mdl_cut x1 x2) = (0 : Int32) then (bs (f_Mdl_flag S25 (2 : Int32) (1 : Int32)) (fun S30 => ((f_Mdl_cut x1 x2), S30))) else (bs (f_Mdl_flag S25 (2 : Int32) (0 : Int32)) (fun S28 => ((f_Mdl_cut x1 x2), S28))))))
def f_Mdl_setFlags (S : Sc) (x1 : Int32) : Sc := if (f_Mdl_is (pr S 6 ((x1 &&& (255 : Int32)))) (16 : Int32)) = (0 : Int32) then ((pr S 6 ((x1 &&& (255 : Int32))))) else ((pr (pr (pr S 6 ((x1 &&& (255 : Int32)))) 1 (((S.1 1) &&& (255 : Int32)))) 2 (((S.1 2) &&& (255 : Int32)))))
def f_Mdl_direct (S : Sc) (x1 : Int32) : Sc := bn (f_Mdl_next S) (fun r1 S2 => (pr (pr S2 14 (((((S.1 4) + r1) + x1) &&& (65535 : Int32)))) 15 ((1 : Int32))))
def f_Mdl_far (S : Sc) (x1 : Int32) : Sc := (pr (pr S 14 ((x1 &&& (16777215 : Int32)))) 15 ((0 : Int32)))
def f_Mdl_find (S : Sc) (x1 : Int32) : Int32 × Sc := if x1 = (5 : Int32) then (bs (f_Mdl_direct S (0 : Int32)) (fun S2 => ((1 : Int32), S2))) else (if x1 = (21 : Int32) then (bs (f_Mdl_direct S (S.1 1)) (fun S94 => ((1 : Int32), S94))) else (if x1 = (3 : Int32) then (bn (f_Mdl_next S) (fun r91 S92 => ((1 : Int32), (pr (pr S92 14 ((((S.1 3) + r91) &&& (65535 : Int32)))) 15 ((1 : Int32)))))) else (if x1 = (13 : Int32) then (bn (f_Mdl_nextWord S) (fun r7 S8 => bs (f_Mdl_far S8 ((((S.1 5) <<< ((16 : Int32) &&& 31)) + r7) + (0 : Int32))) (fun S10 => ((1 : Int32), S10)))) else (if x1 = (25 : Int32) then (bn (f_Mdl_nextWord S) (fun r13 S14 => bs (f_Mdl_far S14 ((((S.1 5) <<< ((16 : Int32) &&& 31)) + r13) + (S14.1 2))) (fun S16 => ((1 : Int32), S16)))) else (if x1 = (29 : Int32) then (bn (f_Mdl_nextWord S) (fun r86 S87 => bs (f_Mdl_far S87 ((((S.1 5) <<< ((16 : Int32) &&& 31)) + r86) + (S87.1 1))) (fun S89 => ((1 : Int32), S89)))) else (if x1 = (15 : Int32) then (bn (f_Mdl_nextLong S) (fun r20 S21 => bs (f_Mdl_far S21 (r20 + (0 : Int32))) (fun S23 => ((1 : Int32), S23)))) else (if x1 = (31 : Int32) then (bn (f_Mdl_nextLong S) (fun r81 S82 => bs (f_Mdl_far S82 (r81 + (S82.1 1))) (fun S84 => ((1 : Int32), S84)))) else (if x1 = (1 : Int32) then (bs (f_Mdl_direct S (S.1 1)) (fun S27 => bn (f_Mdl_readWord S27 (S27.1 14) (1 : Int32)) (fun r29 S30 => bs (f_Mdl_far S30 ((((S27.1 5) <<< ((16 : Int32) &&& 31)) + r29) + (0 : Int32))) (fun S32 => ((1 : Int32), S32))))) else (if x1 = (17 : Int32) then (bs (f_Mdl_direct S (0 : Int32)) (fun S35 => bn (f_Mdl_readWord S35 (S35.1 14) (1 : Int32)) (fun r37 S38 => bs (f_Mdl_far S38 ((((S35.1 5) <<< ((16 : Int32) &&& 31)) + r37) + (S38.1 2))) (fun S40 => ((1 : Int32), S40))))) else (if x1 = (18 : Int32) then (bs (f_Mdl_direct S (0 : Int32)) (fun S74 => bn (f_Mdl_readWord S74 (S74.1 14) (1 : Int32)) (fun r76 S77 => bs (f_Mdl_far S77 ((((S74.1 5) <<< ((16 : Int32) &&& 31)) + r76) + (0 : Int32))) (fun S79 => ((1 : Int32), S79))))) else (if x1 = (7 : Int32) then (bs (f_Mdl_direct S (0 : Int32)) (fun S44 => bn (f_Mdl_readWord S44 (S44.1 14) (1 : Int32)) (fun r46 S47 => bn (f_Mdl_read S47 (((S47.1 14) + (2 : Int32)) &&& (65535 : Int32))) (fun r49 S50 => bs (f_Mdl_far S50 (((r49 <<< ((16 : Int32) &&& 31)) + r46) + (0 : Int32))) (fun S52 => ((1 : Int32), S52)))))) else (if x1 = (23 : Int32) then (bs (f_Mdl_direct S (0 : Int32)) (fun S64 => bn (f_Mdl_readWord S64 (S64.1 14) (1 : Int32)) (fun r66 S67 => bn (f_Mdl_read S67 (((S67.1 14) + (2 : Int32)) &&& (65535 : Int32))) (fun r69 S70 => bs (f_Mdl_far S70 (((r69 <<< ((16 : Int32) &&& 31)) + r66) + (S70.1 2))) (fun S72 => ((1 : Int32), S72)))))) else (if x1 = (19 : Int32) then (bn (f_Mdl_next S) (fun r56 S57 => bn (f_Mdl_readWord (pr S57 14 ((((S.1 3) + r56) &&& (65535 : Int32)))) (((S.1 3) + r56) &&& (65535 : Int32)) (1 : Int32)) (fun r59 S60 => bs (f_Mdl_far S60 ((((S57.1 5) <<< ((16 : Int32) &&& 31)) + r59) + (S60.1 2))) (fun S62 => ((1 : Int32), S62))))) else (((0 : Int32), S)))))))))))))))
def f_Mdl_load (S : Sc) (x1 : Int32) : Int32 × Sc := if x1 = (0 : Int32) then (bn (f_Mdl_readWord S (S.1 14) (S.1 15)) (fun r2 S3 => (r2, S3))) else (bn (f_Mdl_read S (S.1 14)) (fun r5 S6 => (r5, S6)))
def f_Mdl_store (S : Sc) (x1 x2 : Int32) : Sc := bs (f_Mdl_write S (S.1 14) x1) (fun S1 => if x2 = (0 : Int32) then (bs (f_Mdl_write S1 (f_Mdl_after (S1.1 14) (S1.1 15)) (x1 >>> ((8 : Int32) &&& 31))) (fun S4 => S4)) else (S1))
def f_Mdl_immediate (S : Sc) (x1 : Int32) : Int32 × Sc := if x1 = (0 : Int32) then (bn (f_Mdl_nextWord S) (fun r2 S3 => (r2, S3))) else (bn (f_Mdl_next S) (fun r5 S6 => (r5, S6)))
def f_Mdl_add (S : Sc) (x1 : Int32) : Sc := if (f_Mdl_is S (1 : Int32)) = (0 : Int32) then (if (f_Mdl_is S (32 : Int32)) = (0 : Int32) then (if (((f_Mdl_accumulator S) + x1) + (0 : Int32)) ≤ (65535 : Int32) then (bs (f_Mdl_flag S (1 : Int32) (0 : Int32)) (fun S4 => if ((((f_Mdl_accumulator S) ^^^ (((f_Mdl_accumulator S) + x1) + (0 : Int32))) &&& (x1 ^^^ (((f_Mdl_accumulator S) + x1) + (0 : Int32)))) &&& (32768 : Int32)) = (0 : Int32) then (bs (f_Mdl_flag S4 (64 : Int32) (0 : Int32)) (fun S7 => bn (f_Mdl_result S7 (((f_Mdl_accumulator S) + x1) + (0 : Int32)) (f_Mdl_is S (32 : Int32))) (fun r9 S10 => bs (f_Mdl_setAccumulator S10 r9) (fun S12 => S12)))) else (bs (f_Mdl_flag S4 (64 : Int32) (1 : Int32)) (fun S14 => bn (f_Mdl_result S14 (((f_Mdl_accumulator S) + x1) + (0 : Int32)) (f_Mdl_is S (32 : Int32))) (fun r16 S17 => bs (f_Mdl_setAccumulator S17 r16) (fun S19 => S19)))))) else (bs (f_Mdl_flag S (1 : Int32) (1 : Int32)) (fun S21 => if ((((f_Mdl_accumulator S) ^^^ (((f_Mdl_accumulator S) + x1) + (0 : Int32))) &&& (x1 ^^^ (((f_Mdl_accumulator S) + x1) + (0 : Int32)))) &&& (32768 : Int32)) = (0 : Int32) then (bs (f_Mdl_flag S21 (64 : Int32) (0 : Int32)) (fun S24 => bn (f_Mdl_result S24 (((f_Mdl_accumulator S) + x1) + (0 : Int32)) (f_Mdl_is S (32 : Int32))) (fun r26 S27 => bs (f_Mdl_setAccumulator S27 r26) (fun S29 => S29)))) else (bs (f_Mdl_flag S21 (64 : Int32) (1 : Int32)) (fun S31 => bn (f_Mdl_result S31 (((f_Mdl_accumulator S) + x1) + (0 : Int32)) (f_Mdl_is S (32 : Int32))) (fun r33 S34 => bs (f_Mdl_setAccumulator S34 r33) (fun S36 => S36))))))) else (if (((f_Mdl_accumulator S) + x1) + (0 : Int32)) ≤ (255 : Int32) then (bs (f_Mdl_flag S (1 : Int32) (0 : Int32)) (fun S39 => if ((((f_Mdl_accumulator S) ^^^ (((f_Mdl_accumulator S) + x1) + (0 : Int32))) &&& (x1 ^^^ (((f_Mdl_accumulator S) + x1) + (0 : Int32)))) &&& (128 : Int32)) = (0 : Int32) then (bs (f_Mdl_flag S39 (64 : Int32) (0 : Int32)) (fun S42 => bn (f_Mdl_result S42 (((f_Mdl_accumulator S) + x1) + (0 : Int32)) (f_Mdl_is S (32 : Int32))) (fun r44 S45 => bs (f_Mdl_setAccumulator S45 r44) (fun S47 => S47)))) else (bs (f_Mdl_flag S39 (64 : Int32) (1 : Int32)) (fun S49 => bn (f_Mdl_result S49 (((f_Mdl_accumulator S) + x1) + (0 : Int32)) (f_Mdl_is S (32 : Int32))) (fun r51 S52 => bs (f_Mdl_setAccumulator S52 r51) (fun S54 => S54)))))) else (bs (f_Mdl_flag S (1 : Int32) (1 : Int32)) (fun S56 => if ((((f_Mdl_accumulator S) ^^^ (((f_Mdl_accumulator S) + x1) + (0 : Int32))) &&& (x1 ^^^ (((f_Mdl_accumulator S) + x1) + (0 : Int32)))) &&& (128 : Int32)) = (0 : Int32) then (bs (f_Mdl_flag S56 (64 : Int32) (0 : Int32)) (fun S59 => bn (f_Mdl_result S59 (((f_Mdl_accumulator S) + x1) + (0 : Int32)) (f_Mdl_is S (32 : Int32))) (fun r61 S62 => bs (f_Mdl_setAccumulator S62 r61) (fun S64 => S64)))) else (bs (f_Mdl_flag S56 (64 : Int32) (1 : Int32)) (fun S66 => bn (f_Mdl_result S66 (((f_Mdl_accumulator S) + x1) + (0 : Int32)) (f_Mdl_is S (32 : Int32))) (fun r68 S69 => bs (f_Mdl_setAccumulator S69 r68) (fun S71 => S71)))))))) else (if (f_Mdl_is S (32 : Int32)) = (0 : Int32) then (if (((f_Mdl_accumulator S) + x1) + (1 : Int32)) ≤ (65535 : Int32) then (bs (f_Mdl_flag S (1 : Int32) (0 : Int32)) (fun S75 => if ((((f_Mdl_accumulator S) ^^^ (((f_Mdl_accumulator S) + x1) + (1 : Int32))) &&& (x1 ^^^ (((f_Mdl_accumulator S) + x1) + (1 : Int32)))) &&& (32768 : Int32)) = (0 : Int32) then (bs (f_Mdl_flag S75 (64 : Int32) (0 : Int32)) (fun S78 => bn (f_Mdl_result S78 (((f_Mdl_accumulator S) + x1) + (1 : Int32)) (f_Mdl_is S (32 : Int32))) (fun r80 S81 => bs (f_Mdl_setAccumulator S81 r80) (fun S83 => S83)))) else (bs (f_Mdl_flag S75 (64 : Int32) (1 : Int32)) (fun S85 => bn (f_Mdl_result S85 (((f_Mdl_accumulator S) + x1) + (1 : Int32)) (f_Mdl_is S (32 : Int32))) (fun r87 S88 => bs (f_Mdl_setAccumulator S88 r87) (fun S90 => S90)))))) else (bs (f_Mdl_flag S (1 : Int32) (1 : Int32)) (fun S92 => if ((((f_Mdl_accumulator S) ^^^ (((f_Mdl_accumulator S) + x1) + (1 : Int32))) &&& (x1 ^^^ (((f_Mdl_accumulator S) + x1) + (1 : Int32)))) &&& (32768 : Int32)) = (0 : Int32) then (bs (f_Mdl_flag S92 (64 : Int32) (0 : Int32)) (fun S95 => bn (f_Mdl_result S95 (((f_Mdl_accumulator S) + x1) + (1 : Int32)) (f_Mdl_is S (32 : Int32))) (fun r97 S98 => bs (f_Mdl_setAccumulator S98 r97) (fun S100 => S100)))) else (bs (f_Mdl_flag S92 (64 : Int32) (1 : Int32)) (fun S102 => bn (f_Mdl_result S102 (((f_Mdl_accumulator S) + x1) + (1 : Int32)) (f_Mdl_is S (32 : Int32))) (fun r104 S105 => bs (f_Mdl_setAccumulator S105 r104) (fun S107 => S107))))))) else (if (((f_Mdl_accumulator S) + x1) + (1 : Int32)) ≤ (255 : Int32) then (bs (f_Mdl_flag S (1 : Int32) (0 : Int32)) (fun S110 => if ((((f_Mdl_accumulator S) ^^^ (((f_Mdl_accumulator S) + x1) + (1 : Int32))) &&& (x1 ^^^ (((f_Mdl_accumulator S) + x1) + (1 : Int32)))) &&& (128 : Int32)) = (0 : Int32) then (bs (f_Mdl_flag S110 (64 : Int32) (0 : Int32)) (fun S113 => bn (f_Mdl_result S113 (((f_Mdl_accumulator S) + x1) + (1 : Int32)) (f_Mdl_is S (32 : Int32))) (fun r115 S116 => bs (f_Mdl_setAccumulator S116 r115) (fun S118 => S118)))) else (bs (f_Mdl_flag S110 (64 : Int32) (1 : Int32)) (fun S120 => bn (f_Mdl_result S120 (((f_Mdl_accumulator S) + x1) + (1 : Int32)) (f_Mdl_is S (32 : Int32))) (fun r122 S123 => bs (f_Mdl_setAccumulator S123 r122) (fun S125 => S125)))))) else (bs (f_Mdl_flag S (1 : Int32) (1 : Int32)) (fun S127 => if ((((f_Mdl_accumulator S) ^^^ (((f_Mdl_accumulator S) + x1) + (1 : Int32))) &&& (x1 ^^^ (((f_Mdl_accumulator S) + x1) + (1 : Int32)))) &&& (128 : Int32)) = (0 : Int32) then (bs (f_Mdl_flag S127 (64 : Int32) (0 : Int32)) (fun S130 => bn (f_Mdl_result S130 (((f_Mdl_accumulator S) + x1) + (1 : Int32)) (f_Mdl_is S (32 : Int32))) (fun r132 S133 => bs (f_Mdl_setAccumulator S133 r132) (fun S135 => S135)))) else (bs (f_Mdl_flag S127 (64 : Int32) (1 : Int32)) (fun S137 => bn (f_Mdl_result S137 (((f_Mdl_accumulator S) + x1) + (1 : Int32)) (f_Mdl_is S (32 : Int32))) (fun r139 S140 => bs (f_Mdl_setAccumulator S140 r139) (fun S142 => S142))))))))
def f_Mdl_compare (S : Sc) (x1 x2 x3 : Int32) : Sc := bn (f_Mdl_result S (x1 - x2) x3) (fun r1 S2 => if x1 < x2 then (bs (f_Mdl_flag S2 (1 : Int32) (0 : Int32)) (fun S5 => S5)) else (bs (f_Mdl_flag S2 (1 : Int32) (1 : Int32)) (fun S7 => S7)))
def f_Mdl_arithmetic (S : Sc) (x1 : Int32) : Int32 × Sc := if (x1 &&& (31 : Int32)) = (9 : Int32) then (if (x1 >>> ((5 : Int32) &&& 31)) = (4 : Int32) then (((0 : Int32), S)) else (bn (f_Mdl_immediate S (f_Mdl_is S (32 : Int32))) (fun r45 S46 => if (x1 >>> ((5 : Int32) &&& 31)) = (3 : Int32) then (bs (f_Mdl_add S46 r45) (fun S78 => ((1 : Int32), S78))) else (if (x1 >>> ((5 : Int32) &&& 31)) = (7 : Int32) then (bs (f_Mdl_add S46 (f_Mdl_cut (r45 ^^^ (-1 : Int32)) (f_Mdl_is S (32 : Int32)))) (fun S76 => ((1 : Int32), S76))) else (if (x1 >>> ((5 : Int32) &&& 31)) = (6 : Int32) then (bs (f_Mdl_compare S46 (f_Mdl_accumulator S46) r45 (f_Mdl_is S (32 : Int32))) (fun S74 => ((1 : Int32), S74))) else (if (x1 >>> ((5 : Int32) &&& 31)) = (0 : Int32) then (bn (f_Mdl_result S46 ((f_Mdl_accumulator S46) ||| r45) (f_Mdl_is S (32 : Int32))) (fun r69 S70 => bs (f_Mdl_setAccumulator S70 r69) (fun S72 => ((1 : Int32), S72)))) else (if (x1 >>> ((5 : Int32) &&& 31)) = (1 : Int32) then (bn (f_Mdl_result S46 ((f_Mdl_accumulator S46) &&& r45) (f_Mdl_is S (32 : Int32))) (fun r64 S65 => bs (f_Mdl_setAccumulator S65 r64) (fun S67 => ((1 : Int32), S67)))) else (if (x1 >>> ((5 : Int32) &&& 31)) = (2 : Int32) then (bn (f_Mdl_result S46 ((f_Mdl_accumulator S46) ^^^ r45) (f_Mdl_is S (32 : Int32))) (fun r59 S60 => bs (f_Mdl_setAccumulator S60 r59) (fun S62 => ((1 : Int32), S62)))) else (bn (f_Mdl_result S46 r45 (f_Mdl_is S (32 : Int32))) (fun r54 S55 => bs (f_Mdl_setAccumulator S55 r54) (fun S57 => ((1 : Int32), S57)))))))))))) else (bn (f_Mdl_find S (x1 &&& (31 : Int32))) (fun r2 S3 => if r2 = (0 : Int32) then (((0 : Int32), S3)) else (if (x1 >>> ((5 : Int32) &&& 31)) = (4 : Int32) then (bs (f_Mdl_store S3 (f_Mdl_accumulator S3) (f_Mdl_is S (32 : Int32))) (fun S42 => ((1 : Int32), S42))) else (bn (f_Mdl_load S3 (f_Mdl_is S (32 : Int32))) (fun r7 S8 => if (x1 >>> ((5 : Int32) &&& 31)) = (3 : Int32) then (bs (f_Mdl_add S8 r7) (fun S40 => ((1 : Int32), S40))) else (if (x1 >>> ((5 : Int32) &&& 31)) = (7 : Int32) then (bs (f_Mdl_add S8 (f_Mdl_cut (r7 ^^^ (-1 : Int32)) (f_Mdl_is S (32 : Int32)))) (fun S38 => ((1 : Int32), S38))) else (if (x1 >>> ((5 : Int32) &&& 31)) = (6 : Int32) then (bs (f_Mdl_compare S8 (f_Mdl_accumulator S8) r7 (f_Mdl_is S (32 : Int32))) (fun S36 => ((1 : Int32), S36))) else (if (x1 >>> ((5 : Int32) &&& 31)) = (0 : Int32) then (bn (f_Mdl_result S8 ((f_Mdl_accumulator S8) ||| r7) (f_Mdl_is S (32 : Int32))) (fun r31 S32 => bs (f_Mdl_setAccumulator S32 r31) (fun S34 => ((1 : Int32), S34)))) else (if (x1 >>> ((5 : Int32) &&& 31)) = (1 : Int32) then (bn (f_Mdl_result S8 ((f_Mdl_accumulator S8) &&& r7) (f_Mdl_is S (32 : Int32))) (fun r26 S27 => bs (f_Mdl_setAccumulator S27 r26) (fun S29 => ((1 : Int32), S29)))) else (if (x1 >>> ((5 : Int32) &&& 31)) = (2 : Int32) then (bn (f_Mdl_result S8 ((f_Mdl_accumulator S8) ^^^ r7) (f_Mdl_is S (32 : Int32))) (fun r21 S22 => bs (f_Mdl_setAccumulator S22 r21) (fun S24 => ((1 : Int32), S24)))) else (bn (f_Mdl_result S8 r7 (f_Mdl_is S (32 : Int32))) (fun r16 S17 => bs (f_Mdl_setAccumulator S17 r16) (fun S19 => ((1 : Int32), S19))))))))))))))
def f_Mdl_changed (S : Sc) (x1 x2 x3 : Int32) : Int32 × Sc := if x3 = (0 : Int32) then (if (f_Mdl_is S (1 : Int32)) = (0 : Int32) then (if (2 : Int32) ≤ x1 then (if (4 : Int32) ≤ x1 then (if (x2 &&& (1 : Int32)) = (0 : Int32) then (bs (f_Mdl_flag S (1 : Int32) (0 : Int32)) (fun S6 => if x1 = (5 : Int32) then (bn (f_Mdl_result S6 ((x2 / (2 : Int32)) + ((0 : Int32) * (32768 : Int32))) x3) (fun r12 S13 => (r12, S13))) else (bn (f_Mdl_result S6 ((x2 / (2 : Int32)) + (0 : Int32)) x3) (fun r9 S10 => (r9, S10))))) else (bs (f_Mdl_flag S (1 : Int32) (1 : Int32)) (fun S15 => if x1 = (5 : Int32) then (bn (f_Mdl_result S15 ((x2 / (2 : Int32)) + ((0 : Int32) * (32768 : Int32))) x3) (fun r21 S22 => (r21, S22))) else (bn (f_Mdl_result S15 ((x2 / (2 : Int32)) + (0 : Int32)) x3) (fun r18 S19 => (r18, S19)))))) else (if (x2 &&& (32768 : Int32)) = (0 : Int32) then (bs (f_Mdl_flag S (1 : Int32) (0 : Int32)) (fun S25 => if x1 = (3 : Int32) then (bn (f_Mdl_result S25 (((2 : Int32) * x2) + (0 : Int32)) x3) (fun r31 S32 => (r31, S32))) else (bn (f_Mdl_result S25 (((2 : Int32) * x2) + (0 : Int32)) x3) (fun r28 S29 => (r28, S29))))) else (bs (f_Mdl_flag S (1 : Int32) (1 : Int32)) (fun S34 => if x1 = (3 : Int32) then (bn (f_Mdl_result S34 (((2 : Int32) * x2) + (0 : Int32)) x3) (fun r40 S41 => (r40, S41))) else (bn (f_Mdl_result S34 (((2 : Int32) * x2) + (0 : Int32)) x3) (fun r37 S38 => (r37, S38))))))) else (if x1 = (0 : Int32) then (bn (f_Mdl_result S (x2 + (1 : Int32)) x3) (fun r47 S48 => (r47, S48))) else (bn (f_Mdl_result S (x2 - (1 : Int32)) x3) (fun r44 S45 => (r44, S45))))) else (if (2 : Int32) ≤ x1 then (if (4 : Int32) ≤ x1 then (if (x2 &&& (1 : Int32)) = (0 : Int32) then (bs (f_Mdl_flag S (1 : Int32) (0 : Int32)) (fun S53 => if x1 = (5 : Int32) then (bn (f_Mdl_result S53 ((x2 / (2 : Int32)) + ((1 : Int32) * (32768 : Int32))) x3) (fun r59 S60 => (r59, S60))) else (bn (f_Mdl_result S53 ((x2 / (2 : Int32)) + (0 : Int32)) x3) (fun r56 S57 => (r56, S57))))) else (bs (f_Mdl_flag S (1 : Int32) (1 : Int32)) (fun S62 => if x1 = (5 : Int32) then (bn (f_Mdl_result S62 ((x2 / (2 : Int32)) + ((1 : Int32) * (32768 : Int32))) x3) (fun r68 S69 => (r68, S69))) else (bn (f_Mdl_result S62 ((x2 / (2 : Int32)) + (0 : Int32)) x3) (fun r65 S66 => (r65, S66)))))) else (if (x2 &&& (32768 : Int32)) = (0 : Int32) then (bs (f_Mdl_flag S (1 : Int32) (0 : Int32)) (fun S72 => if x1 = (3 : Int32) then (bn (f_Mdl_result S72 (((2 : Int32) * x2) + (1 : Int32)) x3) (fun r78 S79 => (r78, S79))) else (bn (f_Mdl_result S72 (((2 : Int32) * x2) + (0 : Int32)) x3) (fun r75 S76 => (r75, S76))))) else (bs (f_Mdl_flag S (1 : Int32) (1 : Int32)) (fun S81 => if x1 = (3 : Int32) then (bn (f_Mdl_result S81 (((2 : Int32) * x2) + (1 : Int32)) x3) (fun r87 S88 => (r87, S88))) else (bn (f_Mdl_result S81 (((2 : Int32) * x2) + (0 : Int32)) x3) (fun r84 S85 => (r84, S85))))))) else (if x1 = (0 : Int32) then (bn (f_Mdl_result S (x2 + (1 : Int32)) x3) (fun r94 S95 => (r94, S95))) else (bn (f_Mdl_result S (x2 - (1 : Int32)) x3) (fun r91 S92 => (r91, S92)))))) else (if (f_Mdl_is S (1 : Int32)) = (0 : Int32) then (if (2 : Int32) ≤ x1 then (if (4 : Int32) ≤ x1 then (if (x2 &&& (1 : Int32)) = (0 : Int32) then (bs (f_Mdl_flag S (1 : Int32) (0 : Int32)) (fun S101 => if x1 = (5 : Int32) then (bn (f_Mdl_result S101 ((x2 / (2 : Int32)) + ((0 : Int32) * (128 : Int32))) x3) (fun r107 S108 => (r107, S108))) else (bn (f_Mdl_result S101 ((x2 / (2 : Int32)) + (0 : Int32)) x3) (fun r104 S105 => (r104, S105))))) else (bs (f_Mdl_flag S (1 : Int32) (1 : Int32)) (fun S110 => if x1 = (5 : Int32) then (bn (f_Mdl_result S110 ((x2 / (2 : Int32)) + ((0 : Int32) * (128 : Int32))) x3) (fun r116 S117 => (r116, S117))) else (bn (f_Mdl_result S110 ((x2 / (2 : Int32)) + (0 : Int32)) x3) (fun r113 S114 => (r113, S114)))))) else (if (x2 &&& (128 : Int32)) = (0 : Int32) then (bs (f_Mdl_flag S (1 : Int32) (0 : Int32)) (fun S120 => if x1 = (3 : Int32) then (bn (f_Mdl_result S120 (((2 : Int32) * x2) + (0 : Int32)) x3) (fun r126 S127 => (r126, S127))) else (bn (f_Mdl_result S120 (((2 : Int32) * x2) + (0 : Int32)) x3) (fun r123 S124 => (r123, S124))))) else (bs (f_Mdl_flag S (1 : Int32) (1 : Int32)) (fun S129 => if x1 = (3 : Int32) then (bn (f_Mdl_result S129 (((2 : Int32) * x2) + (0 : Int32)) x3) (fun r135 S136 => (r135, S136))) else (bn (f_Mdl_result S129 (((2 : Int32) * x2) + (0 : Int32)) x3) (fun r132 S133 => (r132, S133))))))) else (if x1 = (0 : Int32) then (bn (f_Mdl_result S (x2 + (1 : Int32)) x3) (fun r142 S143 => (r142, S143))) else (bn (f_Mdl_result S (x2 - (1 : Int32)) x3) (fun r139 S140 => (r139, S140))))) else (if (2 : Int32) ≤ x1 then (if (4 : Int32) ≤ x1 then (if (x2 &&& (1 : Int32)) = (0 : Int32) then (bs (f_Mdl_flag S (1 : Int32) (0 : Int32)) (fun S148 => if x1 = (5 : Int32) then (bn (f_Mdl_result S148 ((x2 / (2 : Int32)) + ((1 : Int32) * (128 : Int32))) x3) (fun r154 S155 => (r154, S155))) else (bn (f_Mdl_result S148 ((x2 / (2 : Int32)) + (0 : Int32)) x3) (fun r151 S152 => (r151, S152))))) else (bs (f_Mdl_flag S (1 : Int32) (1 : Int32)) (fun S157 => if x1 = (5 : Int32) then (bn (f_Mdl_result S157 ((x2 / (2 : Int32)) + ((1 : Int32) * (128 : Int32))) x3) (fun r163 S164 => (r163, S164))) else (bn (f_Mdl_result S157 ((x2 / (2 : Int32)) + (0 : Int32)) x3) (fun r160 S161 => (r160, S161)))))) else (if (x2 &&& (128 : Int32)) = (0 : Int32) then (bs (f_Mdl_flag S (1 : Int32) (0 : Int32)) (fun S167 => if x1 = (3 : Int32) then (bn (f_Mdl_result S167 (((2 : Int32) * x2) + (1 : Int32)) x3) (fun r173 S174 => (r173, S174))) else (bn (f_Mdl_result S167 (((2 : Int32) * x2) + (0 : Int32)) x3) (fun r170 S171 => (r170, S171))))) else (bs (f_Mdl_flag S (1 : Int32) (1 : Int32)) (fun S176 => if x1 = (3 : Int32) then (bn (f_Mdl_result S176 (((2 : Int32) * x2) + (1 : Int32)) x3) (fun r182 S183 => (r182, S183))) else (bn (f_Mdl_result S176 (((2 : Int32) * x2) + (0 : Int32)) x3) (fun r179 S180 => (r179, S180))))))) else (if x1 = (0 : Int32) then (bn (f_Mdl_result S (x2 + (1 : Int32)) x3) (fun r189 S190 => (r189, S190))) else (bn (f_Mdl_result S (x2 - (1 : Int32)) x3) (fun r186 S187 => (r186, S187))))))
def f_Mdl_changeMemory (S : Sc) (x1 x2 : Int32) : Sc := if x2 = (0 : Int32) then (bs (f_Mdl_direct S (0 : Int32)) (fun S2 => bn (f_Mdl_load S2 (f_Mdl_is S (32 : Int32))) (fun r4 S5 => bn (f_Mdl_changed S5 x1 r4 (f_Mdl_is S (32 : Int32))) (fun r7 S8 => bs (f_Mdl_store S8 r7 (f_Mdl_is S (32 : Int32))) (fun S10 => S10))))) else (bn (f_Mdl_nextWord S) (fun r12 S13 => bs (f_Mdl_far S13 (((S.1 5) <<< ((16 : Int32) &&& 31)) + r12)) (fun S15 => bn (f_Mdl_load S15 (f_Mdl_is S (32 : Int32))) (fun r17 S18 => bn (f_Mdl_changed S18 x1 r17 (f_Mdl_is S (32 : Int32))) (fun r20 S21 => bs (f_Mdl_store S21 r20 (f_Mdl_is S (32 : Int32))) (fun S23 => S23))))))
def f_Mdl_change (S : Sc) (x1 : Int32) : Int32 × Sc := if x1 = (6 : Int32) then (bs (f_Mdl_changeMemory S (2 : Int32) (0 : Int32)) (fun S2 => ((1 : Int32), S2))) else (if x1 = (10 : Int32) then (bn (f_Mdl_changed S (2 : Int32) (f_Mdl_accumulator S) (f_Mdl_is S (32 : Int32))) (fun r5 S6 => bs (f_Mdl_setAccumulator S6 r5) (fun S8 => ((1 : Int32), S8)))) else (if x1 = (26 : Int32) then (bn (f_Mdl_changed S (0 : Int32) (f_Mdl_accumulator S) (f_Mdl_is S (32 : Int32))) (fun r11 S12 => bs (f_Mdl_setAccumulator S12 r11) (fun S14 => ((1 : Int32), S14)))) else (if x1 = (38 : Int32) then (bs (f_Mdl_changeMemory S (3 : Int32) (0 : Int32)) (fun S17 => ((1 : Int32), S17))) else (if x1 = (42 : Int32) then (bn (f_Mdl_changed S (3 : Int32) (f_Mdl_accumulator S) (f_Mdl_is S (32 : Int32))) (fun r20 S21 => bs (f_Mdl_setAccumulator S21 r20) (fun S23 => ((1 : Int32), S23)))) else (if x1 = (58 : Int32) then (bn (f_Mdl_changed S (1 : Int32) (f_Mdl_accumulator S) (f_Mdl_is S (32 : Int32))) (fun r26 S27 => bs (f_Mdl_setAccumulator S27 r26) (fun S29 => ((1 : Int32), S29)))) else (if x1 = (70 : Int32) then (bs (f_Mdl_changeMemory S (4 : Int32) (0 : Int32)) (fun S32 => ((1 : Int32), S32))) else (if x1 = (74 : Int32) then (bn (f_Mdl_changed S (4 : Int32) (f_Mdl_accumulator S) (f_Mdl_is S (32 : Int32))) (fun r35 S36 => bs (f_Mdl_setAccumulator S36 r35) (fun S38 => ((1 : Int32), S38)))) else (if x1 = (102 : Int32) then (bs (f_Mdl_changeMemory S (5 : Int32) (0 : Int32)) (fun S41 => ((1 : Int32), S41))) else (if x1 = (106 : Int32) then (bn (f_Mdl_changed S (5 : Int32) (f_Mdl_accumulator S) (f_Mdl_is S (32 : Int32))) (fun r44 S45 => bs (f_Mdl_setAccumulator S45 r44) (fun S47 => ((1 : Int32), S47)))) else (if x1 = (198 : Int32) then (bs (f_Mdl_changeMemory S (1 : Int32) (0 : Int32)) (fun S50 => ((1 : Int32), S50))) else (if x1 = (206 : Int32) then (bs (f_Mdl_changeMemory S (1 : Int32) (1 : Int32)) (fun S53 => ((1 : Int32), S53))) else (if x1 = (230 : Int32) then (bs (f_Mdl_changeMemory S (0 : Int32) (0 : Int32)) (fun S56 => ((1 : Int32), S56))) else (if x1 = (238 : Int32) then (bs (f_Mdl_changeMemory S (0 : Int32) (1 : Int32)) (fun S59 => ((1 : Int32), S59))) else (((0 : Int32), S)))))))))))))))
def f_Mdl_findIndex (S : Sc) (x1 : Int32) : Sc := if x1 = (0 : Int32) then (bs (f_Mdl_direct S (0 : Int32)) (fun S2 => S2)) else (bn (f_Mdl_nextWord S) (fun r4 S5 => bs (f_Mdl_far S5 (((S.1 5) <<< ((16 : Int32) &&& 31)) + r4)) (fun S7 => S7)))
def f_Mdl_indexOperand (S : Sc) (x1 : Int32) : Int32 × Sc := if (x1 &&& (15 : Int32)) = (0 : Int32) then (bn (f_Mdl_immediate S (f_Mdl_is S (16 : Int32))) (fun r2 S3 => (r2, S3))) else (if (x1 &&& (15 : Int32)) = (2 : Int32) then (bn (f_Mdl_immediate S (f_Mdl_is S (16 : Int32))) (fun r17 S18 => (r17, S18))) else (if (x1 &&& (8 : Int32)) = (0 : Int32) then (bs (f_Mdl_findIndex S (0 : Int32)) (fun S7 => bn (f_Mdl_load S7 (f_Mdl_is S7 (16 : Int32))) (fun r9 S10 => (r9, S10)))) else (bs (f_Mdl_findIndex S (1 : Int32)) (fun S12 => bn (f_Mdl_load S12 (f_Mdl_is S12 (16 : Int32))) (fun r14 S15 => (r14, S15))))))
def f_Mdl_storeAt (S : Sc) (x1 x2 x3 : Int32) : Sc := bs (f_Mdl_findIndex S x1) (fun S1 => bs (f_Mdl_store S1 x2 x3) (fun S3 => S3))
def f_Mdl_index (S : Sc) (x1 : Int32) : Int32 × Sc := if x1 = (100 : Int32) then (bs (f_Mdl_storeAt S (0 : Int32) (0 : Int32) (f_Mdl_is S (32 : Int32))) (fun S2 => ((1 : Int32), S2))) else (if x1 = (132 : Int32) then (bs (f_Mdl_storeAt S (0 : Int32) (S.1 2) (f_Mdl_is S (16 : Int32))) (fun S5 => ((1 : Int32), S5))) else (if x1 = (134 : Int32) then (bs (f_Mdl_storeAt S (0 : Int32) (S.1 1) (f_Mdl_is S (16 : Int32))) (fun S8 => ((1 : Int32), S8))) else (if x1 = (136 : Int32) then (bn (f_Mdl_result S ((S.1 2) - (1 : Int32)) (f_Mdl_is S (16 : Int32))) (fun r11 S12 => ((1 : Int32), (pr S12 2 (r11))))) else (if x1 = (140 : Int32) then (bs (f_Mdl_storeAt S (1 : Int32) (S.1 2) (f_Mdl_is S (16 : Int32))) (fun S15 => ((1 : Int32), S15))) else (if x1 = (142 : Int32) then (bs (f_Mdl_storeAt S (1 : Int32) (S.1 1) (f_Mdl_is S (16 : Int32))) (fun S18 => ((1 : Int32), S18))) else (if x1 = (156 : Int32) then (bs (f_Mdl_storeAt S (1 : Int32) (0 : Int32) (f_Mdl_is S (32 : Int32))) (fun S21 => ((1 : Int32), S21))) else (if x1 = (160 : Int32) then (bn (f_Mdl_indexOperand S x1) (fun r24 S25 => bn (f_Mdl_result S25 r24 (f_Mdl_is S (16 : Int32))) (fun r27 S28 => ((1 : Int32), (pr S28 2 (r27)))))) else (if x1 = (162 : Int32) then (bn (f_Mdl_indexOperand S x1) (fun r31 S32 => bn (f_Mdl_result S32 r31 (f_Mdl_is S (16 : Int32))) (fun r34 S35 => ((1 : Int32), (pr S35 1 (r34)))))) else (if x1 = (164 : Int32) then (bn (f_Mdl_indexOperand S x1) (fun r38 S39 => bn (f_Mdl_result S39 r38 (f_Mdl_is S (16 : Int32))) (fun r41 S42 => ((1 : Int32), (pr S42 2 (r41)))))) else (if x1 = (166 : Int32) then (bn (f_Mdl_indexOperand S x1) (fun r45 S46 => bn (f_Mdl_result S46 r45 (f_Mdl_is S (16 : Int32))) (fun r48 S49 => ((1 : Int32), (pr S49 1 (r48)))))) else (if x1 = (172 : Int32) then (bn (f_Mdl_indexOperand S x1) (fun r52 S53 => bn (f_Mdl_result S53 r52 (f_Mdl_is S (16 : Int32))) (fun r55 S56 => ((1 : Int32), (pr S56 2 (r55)))))) else (if x1 = (174 : Int32) then (bn (f_Mdl_indexOperand S x1) (fun r59 S60 => bn (f_Mdl_result S60 r59 (f_Mdl_is S (16 : Int32))) (fun r62 S63 => ((1 : Int32), (pr S63 1 (r62)))))) else (if x1 = (192 : Int32) then (bn (f_Mdl_immediate S (f_Mdl_is S (16 : Int32))) (fun r66 S67 => bs (f_Mdl_compare S67 (S.1 2) r66 (f_Mdl_is S (16 : Int32))) (fun S69 => ((1 : Int32), S69)))) else (if x1 = (200 : Int32) then (bn (f_Mdl_result S ((S.1 2) + (1 : Int32)) (f_Mdl_is S (16 : Int32))) (fun r72 S73 => ((1 : Int32), (pr S73 2 (r72))))) else (if x1 = (202 : Int32) then (bn (f_Mdl_result S ((S.1 1) - (1 : Int32)) (f_Mdl_is S (16 : Int32))) (fun r76 S77 => ((1 : Int32), (pr S77 1 (r76))))) else (if x1 = (224 : Int32) then (bn (f_Mdl_immediate S (f_Mdl_is S (16 : Int32))) (fun r80 S81 => bs (f_Mdl_compare S81 (S.1 1) r80 (f_Mdl_is S (16 : Int32))) (fun S83 => ((1 : Int32), S83)))) else (if x1 = (232 : Int32) then (bn (f_Mdl_result S ((S.1 1) + (1 : Int32)) (f_Mdl_is S (16 : Int32))) (fun r86 S87 => ((1 : Int32), (pr S87 1 (r86))))) else (((0 : Int32), S)))))))))))))))))))
def f_Mdl_transfer (S : Sc) (x1 : Int32) : Int32 × Sc := if x1 = (27 : Int32) then (((1 : Int32), (pr S 3 (S.1 0)))) else (if x1 = (59 : Int32) then (bn (f_Mdl_result S (S.1 3) (0 : Int32)) (fun r3 S4 => ((1 : Int32), (pr S4 0 (r3))))) else (if x1 = (91 : Int32) then (bn (f_Mdl_result S (S.1 0) (0 : Int32)) (fun r7 S8 => ((1 : Int32), (pr S8 4 (r7))))) else (if x1 = (123 : Int32) then (bn (f_Mdl_result S (S.1 4) (0 : Int32)) (fun r11 S12 => ((1 : Int32), (pr S12 0 (r11))))) else (if x1 = (138 : Int32) then (bn (f_Mdl_result S (S.1 1) (f_Mdl_is S (32 : Int32))) (fun r15 S16 => bs (f_Mdl_setAccumulator S16 r15) (fun S18 => ((1 : Int32), S18)))) else (if x1 = (152 : Int32) then (bn (f_Mdl_result S (S.1 2) (f_Mdl_is S (32 : Int32))) (fun r21 S22 => bs (f_Mdl_setAccumulator S22 r21) (fun S24 => ((1 : Int32), S24)))) else (if x1 = (154 : Int32) then (((1 : Int32), (pr S 3 (S.1 1)))) else (if x1 = (155 : Int32) then (bn (f_Mdl_result S (S.1 1) (f_Mdl_is S (16 : Int32))) (fun r28 S29 => ((1 : Int32), (pr S29 2 (r28))))) else (if x1 = (168 : Int32) then (bn (f_Mdl_result S (S.1 0) (f_Mdl_is S (16 : Int32))) (fun r32 S33 => ((1 : Int32), (pr S33 2 (r32))))) else (if x1 = (170 : Int32) then (bn (f_Mdl_result S (S.1 0) (f_Mdl_is S (16 : Int32))) (fun r36 S37 => ((1 : Int32), (pr S37 1 (r36))))) else (if x1 = (186 : Int32) then (bn (f_Mdl_result S (S.1 3) (f_Mdl_is S (16 : Int32))) (fun r40 S41 => ((1 : Int32), (pr S41 1 (r40))))) else (if x1 = (187 : Int32) then (bn (f_Mdl_result S (S.1 2) (f_Mdl_is S (16 : Int32))) (fun r44 S45 => ((1 : Int32), (pr S45 1 (r44))))) else (if x1 = (235 : Int32) then (bn (f_Mdl_result (pr S 0 ((((S.1 0) >>> ((8 : Int32) &&& 31)) ||| (((S.1 0) &&& (255 : Int32)) <<< ((8 : Int32) &&& 31))))) (((S.1 0) >>> ((8 : Int32) &&& 31)) ||| (((S.1 0) &&& (255 : Int32)) <<< ((8 : Int32) &&& 31))) (1 : Int32)) (fun r48 S49 => ((1 : Int32), S49))) else (((0 : Int32), S))))))))))))))
def f_Mdl_pushOf (S : Sc) (x1 x2 : Int32) : Sc := if x2 = (0 : Int32) then (bs (f_Mdl_pushWord S x1) (fun S2 => S2)) else (bs (f_Mdl_push S x1) (fun S4 => S4))
def f_Mdl_pullOf (S : Sc) (x1 : Int32) : Int32 × Sc := if x1 = (0 : Int32) then (bn (f_Mdl_pullWord S) (fun r2 S3 => bn (f_Mdl_result S3 r2 x1) (fun r5 S6 => (r5, S6)))) else (bn (f_Mdl_pull S) (fun r8 S9 => bn (f_Mdl_result S9 r8 x1) (fun r11 S12 => (r11, S12))))
def f_Mdl_stack (S : Sc) (x1 : Int32) : Int32 × Sc := if x1 = (8 : Int32) then (bs (f_Mdl_push S (S.1 6)) (fun S2 => ((1 : Int32), S2))) else (if x1 = (11 : Int32) then (bs (f_Mdl_pushWord S (S.1 4)) (fun S5 => ((1 : Int32), S5))) else (if x1 = (40 : Int32) then (bn (f_Mdl_pull S) (fun r8 S9 => bs (f_Mdl_setFlags S9 r8) (fun S11 => ((1 : Int32), S11)))) else (if x1 = (43 : Int32) then (bn (f_Mdl_pullOf S (0 : Int32)) (fun r14 S15 => ((1 : Int32), (pr S15 4 (r14))))) else (if x1 = (72 : Int32) then (bs (f_Mdl_pushOf S (f_Mdl_accumulator S) (f_Mdl_is S (32 : Int32))) (fun S18 => ((1 : Int32), S18))) else (if x1 = (75 : Int32) then (bs (f_Mdl_push S (S.1 7)) (fun S21 => ((1 : Int32), S21))) else (if x1 = (90 : Int32) then (bs (f_Mdl_pushOf S (S.1 2) (f_Mdl_is S (16 : Int32))) (fun S24 => ((1 : Int32), S24))) else (if x1 = (104 : Int32) then (bn (f_Mdl_pullOf S (f_Mdl_is S (32 : Int32))) (fun r27 S28 => bs (f_Mdl_setAccumulator S28 r27) (fun S30 => ((1 : Int32), S30)))) else (if x1 = (122 : Int32) then (bn (f_Mdl_pullOf S (f_Mdl_is S (16 : Int32))) (fun r33 S34 => ((1 : Int32), (pr S34 2 (r33))))) else (if x1 = (139 : Int32) then (bs (f_Mdl_push S (S.1 5)) (fun S37 => ((1 : Int32), S37))) else (if x1 = (171 : Int32) then (bn (f_Mdl_pullOf S (1 : Int32)) (fun r40 S41 => ((1 : Int32), (pr S41 5 (r40))))) else (if x1 = (218 : Int32) then (bs (f_Mdl_pushOf S (S.1 1) (f_Mdl_is S (16 : Int32))) (fun S44 => ((1 : Int32), S44))) else (if x1 = (244 : Int32) then (bn (f_Mdl_nextWord S) (fun r47 S48 => bs (f_Mdl_pushWord S48 r47) (fun S50 => ((1 : Int32), S50)))) else (if x1 = (250 : Int32) then (bn (f_Mdl_pullOf S (f_Mdl_is S (16 : Int32))) (fun r53 S54 => ((1 : Int32), (pr S54 1 (r53))))) else (((0 : Int32), S)))))))))))))))
def f_Mdl_branch (S : Sc) (x1 : Int32) : Sc := bn (f_Mdl_next S) (fun r1 S2 => if r1 ≤ (127 : Int32) then (if x1 = (0 : Int32) then ((pr S2 8 (S2.1 8))) else ((pr S2 8 ((((S2.1 8) + r1) &&& (65535 : Int32)))))) else (if x1 = (0 : Int32) then ((pr S2 8 (S2.1 8))) else ((pr S2 8 ((((S2.1 8) + (r1 - (256 : Int32))) &&& (65535 : Int32)))))))
def f_Mdl_call (S : Sc) (x1 : Int32) : Sc := bs (f_Mdl_pushWord S (((S.1 8) - (1 : Int32)) &&& (65535 : Int32))) (fun S1 => (pr S1 8 ((x1 &&& (65535 : Int32)))))
def f_Mdl_interruptFrom (S : Sc) (x1 : Int32) : Sc := bs (f_Mdl_push S (S.1 7)) (fun S1 => bs (f_Mdl_pushWord S1 (S1.1 8)) (fun S3 => bs (f_Mdl_push S3 (S3.1 6)) (fun S5 => bs (f_Mdl_flag S5 (4 : Int32) (1 : Int32)) (fun S7 => bs (f_Mdl_flag S7 (8 : Int32) (0 : Int32)) (fun S9 => bn (f_Mdl_readWord (pr S9 7 ((0 : Int32))) x1 (1 : Int32)) (fun r11 S12 => (pr S12 8 (r11))))))))
def f_Mdl_longJump (S : Sc) (x1 : Int32) : Int32 × Sc := if x1 = (92 : Int32) then (bn (f_Mdl_nextLong S) (fun r35 S36 => ((1 : Int32), (pr (pr S36 7 ((r35 >>> ((16 : Int32) &&& 31)))) 8 ((r35 &&& (65535 : Int32))))))) else (if x1 = (34 : Int32) then (bn (f_Mdl_nextLong S) (fun r28 S29 => bs (f_Mdl_push S29 (S29.1 7)) (fun S31 => bs (f_Mdl_call S31 r28) (fun S33 => ((1 : Int32), (pr S33 7 ((r28 >>> ((16 : Int32) &&& 31))))))))) else (if x1 = (107 : Int32) then (bn (f_Mdl_pullWord S) (fun r22 S23 => bn (f_Mdl_pull (pr S23 8 (((r22 + (1 : Int32)) &&& (65535 : Int32))))) (fun r25 S26 => ((1 : Int32), (pr S26 7 (r25)))))) else (if x1 = (0 : Int32) then (bn (f_Mdl_next S) (fun r17 S18 => bs (f_Mdl_interruptFrom S18 (486 : Int32)) (fun S20 => ((1 : Int32), S20)))) else (if x1 = (64 : Int32) then (bn (f_Mdl_pull S) (fun r6 S7 => bs (f_Mdl_setFlags S7 r6) (fun S9 => bn (f_Mdl_pullWord S9) (fun r11 S12 => bn (f_Mdl_pull (pr S12 8 (r11))) (fun r14 S15 => ((1 : Int32), (pr S15 7 (r14)))))))) else (((0 : Int32), S))))))
def f_Mdl_jump (S : Sc) (x1 : Int32) : Int32 × Sc := if x1 = (16 : Int32) then (if (f_Mdl_is S (128 : Int32)) = (0 : Int32) then (bs (f_Mdl_branch S (1 : Int32)) (fun S5 => ((1 : Int32), S5))) else (bs (f_Mdl_branch S (0 : Int32)) (fun S3 => ((1 : Int32), S3)))) else (if x1 = (32 : Int32) then (bn (f_Mdl_nextWord S) (fun r8 S9 => bs (f_Mdl_call S9 r8) (fun S11 => ((1 : Int32), S11)))) else (if x1 = (48 : Int32) then (bs (f_Mdl_branch S (f_Mdl_is S (128 : Int32))) (fun S14 => ((1 : Int32), S14))) else (if x1 = (76 : Int32) then (bn (f_Mdl_nextWord S) (fun r17 S18 => ((1 : Int32), (pr S18 8 (r17))))) else (if x1 = (80 : Int32) then (if (f_Mdl_is S (64 : Int32)) = (0 : Int32) then (bs (f_Mdl_branch S (1 : Int32)) (fun S24 => ((1 : Int32), S24))) else (bs (f_Mdl_branch S (0 : Int32)) (fun S22 => ((1 : Int32), S22)))) else (if x1 = (96 : Int32) then (bn (f_Mdl_pullWord S) (fun r27 S28 => ((1 : Int32), (pr S28 8 (((r27 + (1 : Int32)) &&& (65535 : Int32))))))) else (if x1 = (112 : Int32) then (bs (f_Mdl_branch S (f_Mdl_is S (64 : Int32))) (fun S31 => ((1 : Int32), S31))) else (if x1 = (128 : Int32) then (bs (f_Mdl_branch S (1 : Int32)) (fun S34 => ((1 : Int32), S34))) else (if x1 = (130 : Int32) then (bn (f_Mdl_nextWord S) (fun r37 S38 => ((1 : Int32), (pr S38 8 ((((S38.1 8) + r37) &&& (65535 : Int32))))))) else (if x1 = (144 : Int32) then (if (f_Mdl_is S (1 : Int32)) = (0 : Int32) then (bs (f_Mdl_branch S (1 : Int32)) (fun S44 => ((1 : Int32), S44))) else (bs (f_Mdl_branch S (0 : Int32)) (fun S42 => ((1 : Int32), S42)))) else (if x1 = (176 : Int32) then (bs (f_Mdl_branch S (f_Mdl_is S (1 : Int32))) (fun S47 => ((1 : Int32), S47))) else (if x1 = (208 : Int32) then (if (f_Mdl_is S (2 : Int32)) = (0 : Int32) then (bs (f_Mdl_branch S (1 : Int32)) (fun S53 => ((1 : Int32), S53))) else (bs (f_Mdl_branch S (0 : Int32)) (fun S51 => ((1 : Int32), S51)))) else (if x1 = (240 : Int32) then (bs (f_Mdl_branch S (f_Mdl_is S (2 : Int32))) (fun S56 => ((1 : Int32), S56))) else (bn (f_Mdl_longJump S x1) (fun r58 S59 => (r58, S59)))))))))))))))
def f_Mdl_moveBlock (S : Sc) (x1 : Int32) : Sc := bn (f_Mdl_next S) (fun r1 S2 => bn (f_Mdl_next S2) (fun r4 S5 => bn (f_Mdl_read (pr S5 5 (r1)) ((r4 <<< ((16 : Int32) &&& 31)) ||| (S5.1 1))) (fun r7 S8 => bs (f_Mdl_write S8 ((r1 <<< ((16 : Int32) &&& 31)) ||| (S8.1 2)) r7) (fun S10 => if S10.1 0 = (0 : Int32) then ((pr (pr (pr (pr S10 1 ((f_Mdl_cut ((S10.1 1) + x1) (f_Mdl_is S10 (16 : Int32))))) 2 ((f_Mdl_cut ((S10.1 2) + x1) (f_Mdl_is (pr S10 1 ((f_Mdl_cut ((S10.1 1) + x1) (f_Mdl_is S10 (16 : Int32))))) (16 : Int32))))) 8 (S10.1 8)) 0 ((((S10.1 0) - (1 : Int32)) &&& (65535 : Int32))))) else ((pr (pr (pr (pr S10 1 ((f_Mdl_cut ((S10.1 1) + x1) (f_Mdl_is S10 (16 : Int32))))) 2 ((f_Mdl_cut ((S10.1 2) + x1) (f_Mdl_is (pr S10 1 ((f_Mdl_cut ((S10.1 1) + x1) (f_Mdl_is S10 (16 : Int32))))) (16 : Int32))))) 8 ((((S.1 8) - (1 : Int32)) &&& (65535 : Int32)))) 0 ((((S10.1 0) - (1 : Int32)) &&& (65535 : Int32)))))))))
def f_Mdl_other (S : Sc) (x1 : Int32) : Int32 × Sc := if x1 = (24 : Int32) then (bs (f_Mdl_flag S (1 : Int32) (0 : Int32)) (fun S2 => ((1 : Int32), S2))) else (if x1 = (56 : Int32) then (bs (f_Mdl_flag S (1 : Int32) (1 : Int32)) (fun S5 => ((1 : Int32), S5))) else (if x1 = (68 : Int32) then (bs (f_Mdl_moveBlock S (-1 : Int32)) (fun S8 => ((1 : Int32), S8))) else (if x1 = (84 : Int32) then (bs (f_Mdl_moveBlock S (1 : Int32)) (fun S11 => ((1 : Int32), S11))) else (if x1 = (88 : Int32) then (bs (f_Mdl_flag S (4 : Int32) (0 : Int32)) (fun S14 => ((1 : Int32), S14))) else (if x1 = (120 : Int32) then (bs (f_Mdl_flag S (4 : Int32) (1 : Int32)) (fun S17 => ((1 : Int32), S17))) else (if x1 = (184 : Int32) then (bs (f_Mdl_flag S (64 : Int32) (0 : Int32)) (fun S20 => ((1 : Int32), S20))) else (if x1 = (194 : Int32) then (bn (f_Mdl_next S) (fun r23 S24 => bs (f_Mdl_setFlags S24 ((S.1 6) &&& (r23 ^^^ (-1 : Int32)))) (fun S26 => ((1 : Int32), S26)))) else (if x1 = (216 : Int32) then (bs (f_Mdl_flag S (8 : Int32) (0 : Int32)) (fun S29 => ((1 : Int32), S29))) else (if x1 = (226 : Int32) then (bn (f_Mdl_next S) (fun r32 S33 => bs (f_Mdl_setFlags S33 ((S.1 6) ||| r32)) (fun S35 => ((1 : Int32), S35)))) else (if x1 = (234 : Int32) then (((1 : Int32), S)) else (if x1 = (248 : Int32) then (bs (f_Mdl_flag S (8 : Int32) (1 : Int32)) (fun S39 => ((1 : Int32), S39))) else (((0 : Int32), S)))))))))))))
def f_Mdl_step (S : Sc) : Sc := if S.1 10 = (0 : Int32) then (if S.1 11 = (0 : Int32) then (bn (f_Mdl_next (pr S 12 (((S.1 12) + (1 : Int32))))) (fun r3 S4 => if ((r3 &&& (31 : Int32)) &&& (1 : Int32)) = (1 : Int32) then (if (r3 &&& (31 : Int32)) = (11 : Int32) then (bn (f_Mdl_change S4 r3) (fun r37 S38 => if r37 = (0 : Int32) then (bn (f_Mdl_index S38 r3) (fun r41 S42 => if r41 = (0 : Int32) then (bn (f_Mdl_transfer S42 r3) (fun r45 S46 => if r45 = (0 : Int32) then (bn (f_Mdl_stack S46 r3) (fun r49 S50 => if r49 = (0 : Int32) then (bn (f_Mdl_jump S50 r3) (fun r53 S54 => if r53 = (0 : Int32) then (bn (f_Mdl_other S54 r3) (fun r57 S58 => if r57 = (0 : Int32) then ((pr S58 9 ((1 : Int32)))) else ((pr S58 9 ((0 : Int32)))))) else ((pr S54 9 ((0 : Int32)))))) else ((pr S50 9 ((0 : Int32)))))) else ((pr S46 9 ((0 : Int32)))))) else ((pr S42 9 ((0 : Int32)))))) else ((pr S38 9 ((0 : Int32)))))) else (if (r3 &&& (31 : Int32)) = (27 : Int32) then (bn (f_Mdl_change S4 r3) (fun r66 S67 => if r66 = (0 : Int32) then (bn (f_Mdl_index S67 r3) (fun r70 S71 => if r70 = (0 : Int32) then (bn (f_Mdl_transfer S71 r3) (fun r74 S75 => if r74 = (0 : Int32) then (bn (f_Mdl_stack S75 r3) (fun r78 S79 => if r78 = (0 : Int32) then (bn (f_Mdl_jump S79 r3) (fun r82 S83 => if r82 = (0 : Int32) then (bn (f_Mdl_other S83 r3) (fun r86 S87 => if r86 = (0 : Int32) then ((pr S87 9 ((1 : Int32)))) else ((pr S87 9 ((0 : Int32)))))) else ((pr S83 9 ((0 : Int32)))))) else ((pr S79 9 ((0 : Int32)))))) else ((pr S75 9 ((0 : Int32)))))) else ((pr S71 9 ((0 : Int32)))))) else ((pr S67 9 ((0 : Int32)))))) else (bn (f_Mdl_arithmetic S4 r3) (fun r62 S63 => if r62 = (0 : Int32) then ((pr S63 9 ((1 : Int32)))) else ((pr S63 9 ((0 : Int32)))))))) else (if (r3 &&& (31 : Int32)) = (18 : Int32) then (bn (f_Mdl_arithmetic S4 r3) (fun r32 S33 => if r32 = (0 : Int32) then ((pr S33 9 ((1 : Int32)))) else ((pr S33 9 ((0 : Int32)))))) else (bn (f_Mdl_change S4 r3) (fun r8 S9 => if r8 = (0 : Int32) then (bn (f_Mdl_index S9 r3) (fun r12 S13 => if r12 = (0 : Int32) then (bn (f_Mdl_transfer S13 r3) (fun r16 S17 => if r16 = (0 : Int32) then (bn (f_Mdl_stack S17 r3) (fun r20 S21 => if r20 = (0 : Int32) then (bn (f_Mdl_jump S21 r3) (fun r24 S25 => if r24 = (0 : Int32) then (bn (f_Mdl_other S25 r3) (fun r28 S29 => if r28 = (0 : Int32) then ((pr S29 9 ((1 : Int32)))) else ((pr S29 9 ((0 : Int32)))))) else ((pr S25 9 ((0 : Int32)))))) else ((pr S21 9 ((0 : Int32)))))) else ((pr S17 9 ((0 : Int32)))))) else ((pr S13 9 ((0 : Int32)))))) else ((pr S9 9 ((0 : Int32))))))))) else (if (f_Mdl_is (pr S 12 (((S.1 12) + (1 : Int32)))) (4 : Int32)) = (0 : Int32) then (bs (f_Mdl_interruptFrom (pr S 12 (((S.1 12) + (1 : Int32)))) (494 : Int32)) (fun S178 => S178)) else (bn (f_Mdl_next (pr S 12 (((S.1 12) + (1 : Int32))))) (fun r91 S92 => if ((r91 &&& (31 : Int32)) &&& (1 : Int32)) = (1 : Int32) then (if (r91 &&& (31 : Int32)) = (11 : Int32) then (bn (f_Mdl_change S92 r91) (fun r125 S126 => if r125 = (0 : Int32) then (bn (f_Mdl_index S126 r91) (fun r129 S130 => if r129 = (0 : Int32) then (bn (f_Mdl_transfer S130 r91) (fun r133 S134 => if r133 = (0 : Int32) then (bn (f_Mdl_stack S134 r91) (fun r137 S138 => if r137 = (0 : Int32) then (bn (f_Mdl_jump S138 r91) (fun r141 S142 => if r141 = (0 : Int32) then (bn (f_Mdl_other S142 r91) (fun r145 S146 => if r145 = (0 : Int32) then ((pr S146 9 ((1 : Int32)))) else ((pr S146 9 ((0 : Int32)))))) else ((pr S142 9 ((0 : Int32)))))) else ((pr S138 9 ((0 : Int32)))))) else ((pr S134 9 ((0 : Int32)))))) else ((pr S130 9 ((0 : Int32)))))) else ((pr S126 9 ((0 : Int32)))))) else (if (r91 &&& (31 : Int32)) = (27 : Int32) then (bn (f_Mdl_change S92 r91) (fun r154 S155 => if r154 = (0 : Int32) then (bn (f_Mdl_index S155 r91) (fun r158 S159 => if r158 = (0 : Int32) then (bn (f_Mdl_transfer S159 r91) (fun r162 S163 => if r162 = (0 : Int32) then (bn (f_Mdl_stack S163 r91) (fun r166 S167 => if r166 = (0 : Int32) then (bn (f_Mdl_jump S167 r91) (fun r170 S171 => if r170 = (0 : Int32) then (bn (f_Mdl_other S171 r91) (fun r174 S175 => if r174 = (0 : Int32) then ((pr S175 9 ((1 : Int32)))) else ((pr S175 9 ((0 : Int32)))))) else ((pr S171 9 ((0 : Int32)))))) else ((pr S167 9 ((0 : Int32)))))) else ((pr S163 9 ((0 : Int32)))))) else ((pr S159 9 ((0 : Int32)))))) else ((pr S155 9 ((0 : Int32)))))) else (bn (f_Mdl_arithmetic S92 r91) (fun r150 S151 => if r150 = (0 : Int32) then ((pr S151 9 ((1 : Int32)))) else ((pr S151 9 ((0 : Int32)))))))) else (if (r91 &&& (31 : Int32)) = (18 : Int32) then (bn (f_Mdl_arithmetic S92 r91) (fun r120 S121 => if r120 = (0 : Int32) then ((pr S121 9 ((1 : Int32)))) else ((pr S121 9 ((0 : Int32)))))) else (bn (f_Mdl_change S92 r91) (fun r96 S97 => if r96 = (0 : Int32) then (bn (f_Mdl_index S97 r91) (fun r100 S101 => if r100 = (0 : Int32) then (bn (f_Mdl_transfer S101 r91) (fun r104 S105 => if r104 = (0 : Int32) then (bn (f_Mdl_stack S105 r91) (fun r108 S109 => if r108 = (0 : Int32) then (bn (f_Mdl_jump S109 r91) (fun r112 S113 => if r112 = (0 : Int32) then (bn (f_Mdl_other S113 r91) (fun r116 S117 => if r116 = (0 : Int32) then ((pr S117 9 ((1 : Int32)))) else ((pr S117 9 ((0 : Int32)))))) else ((pr S113 9 ((0 : Int32)))))) else ((pr S109 9 ((0 : Int32)))))) else ((pr S105 9 ((0 : Int32)))))) else ((pr S101 9 ((0 : Int32)))))) else ((pr S97 9 ((0 : Int32))))))))))) else (bs (f_Mdl_interruptFrom (pr (pr S 12 (((S.1 12) + (1 : Int32)))) 10 ((0 : Int32))) (490 : Int32)) (fun S180 => S180))
def f_Mdl_poke (S : Sc) (x1 x2 x3 : Int32) : Int32 × Sc := if x3 < (1 : Int32) then (((0 : Int32), S)) else (if (4 : Int32) < x3 then (((0 : Int32), S)) else (if x1 < (0 : Int32) then (((0 : Int32), S)) else (if x1 ≤ ((1024 : Int32) - x3) then (if x3 ≤ (0 : Int32) then (((1 : Int32), S)) else (if x3 ≤ (1 : Int32) then (((1 : Int32), (pm S (((x1 + (0 : Int32))).toNatClampNeg) (((x2 >>> (((8 : Int32) * (0 : Int32)) &&& 31)) &&& (255 : Int32)))))) else (if x3 ≤ (2 : Int32) then (((1 : Int32), (pm (pm S (((x1 + (0 : Int32))).toNatClampNeg) (((x2 >>> (((8 : Int32) * (0 : Int32)) &&& 31)) &&& (255 : Int32)))) (((x1 + (1 : Int32))).toNatClampNeg) (((x2 >>> (((8 : Int32) * (1 : Int32)) &&& 31)) &&& (255 : Int32)))))) else (if x3 ≤ (3 : Int32) then (((1 : Int32), (pm (pm (pm S (((x1 + (0 : Int32))).toNatClampNeg) (((x2 >>> (((8 : Int32) * (0 : Int32)) &&& 31)) &&& (255 : Int32)))) (((x1 + (1 : Int32))).toNatClampNeg) (((x2 >>> (((8 : Int32) * (1 : Int32)) &&& 31)) &&& (255 : Int32)))) (((x1 + (2 : Int32))).toNatClampNeg) (((x2 >>> (((8 : Int32) * (2 : Int32)) &&& 31)) &&& (255 : Int32)))))) else (((1 : Int32), (pm (pm (pm (pm S (((x1 + (0 : Int32))).toNatClampNeg) (((x2 >>> (((8 : Int32) * (0 : Int32)) &&& 31)) &&& (255 : Int32)))) (((x1 + (1 : Int32))).toNatClampNeg) (((x2 >>> (((8 : Int32) * (1 : Int32)) &&& 31)) &&& (255 : Int32)))) (((x1 + (2 : Int32))).toNatClampNeg) (((x2 >>> (((8 : Int32) * (2 : Int32)) &&& 31)) &&& (255 : Int32)))) (((x1 + (3 : Int32))).toNatClampNeg) (((x2 >>> (((8 : Int32) * (3 : Int32)) &&& 31)) &&& (255 : Int32)))))))))) else (((0 : Int32), S)))))
def f_Mdl_peek (S : Sc) (x1 : Int32) : Int32 := if x1 < (0 : Int32) then ((-1 : Int32)) else (if (1024 : Int32) ≤ x1 then ((-1 : Int32)) else ((S.2.1 (x1).toNatClampNeg)))
def f_Mdl_start (S : Sc) (x1 x2 : Int32) : Int32 × Sc := if x1 < (0 : Int32) then (((0 : Int32), S)) else (if (255 : Int32) < x1 then (((0 : Int32), S)) else (if x2 < (0 : Int32) then (((0 : Int32), S)) else (if x2 ≤ (65535 : Int32) then (((1 : Int32), (pr (pr (pr S 7 (x1)) 8 (x2)) 9 ((0 : Int32))))) else (((0 : Int32), S)))))
def f_Mdl_set (S : Sc) (x1 x2 : Int32) : Int32 × Sc := if x1 = (0 : Int32) then (((1 : Int32), (pr S 0 ((x2 &&& (65535 : Int32)))))) else (if x1 = (1 : Int32) then (((1 : Int32), (pr S 1 ((f_Mdl_cut x2 (f_Mdl_is S (16 : Int32))))))) else (if x1 = (2 : Int32) then (((1 : Int32), (pr S 2 ((f_Mdl_cut x2 (f_Mdl_is S (16 : Int32))))))) else (if x1 = (3 : Int32) then (((1 : Int32), (pr S 3 ((x2 &&& (65535 : Int32)))))) else (if x1 = (4 : Int32) then (((1 : Int32), (pr S 4 ((x2 &&& (65535 : Int32)))))) else (if x1 = (5 : Int32) then (((1 : Int32), (pr S 5 ((x2 &&& (255 : Int32)))))) else (if x1 = (6 : Int32) then (bs (f_Mdl_setFlags S x2) (fun S8 => ((1 : Int32), S8))) else (((0 : Int32), S))))))))
def f_Mdl_register (S : Sc) (x1 : Int32) : Int32 := if x1 = (0 : Int32) then (S.1 0) else (if x1 = (1 : Int32) then (S.1 1) else (if x1 = (2 : Int32) then (S.1 2) else (if x1 = (3 : Int32) then (S.1 3) else (if x1 = (4 : Int32) then (S.1 4) else (if x1 = (5 : Int32) then (S.1 5) else (if x1 = (6 : Int32) then (S.1 6) else (if x1 = (7 : Int32) then (S.1 7) else (if x1 = (8 : Int32) then (S.1 8) else ((-1 : Int32))))))))))
def f_Mdl_stopped (S : Sc) : Int32 := S.1 9
def f_Mdl_interrupt (S : Sc) : Int32 × Sc := if S.1 10 = (0 : Int32) then (((1 : Int32), (pr S 10 ((1 : Int32))))) else (((0 : Int32), (pr S 10 ((1 : Int32)))))
def f_Mdl_line (S : Sc) (x1 : Int32) : Sc := (pr S 11 (x1))
def f_Mdl_touches (S : Sc) : Int32 := S.1 13
def f_Mdl_touched (S : Sc) (x1 : Int32) : Int32 := if x1 < (0 : Int32) then ((-1 : Int32)) else (if (8 : Int32) ≤ x1 then ((-1 : Int32)) else (if S.1 13 ≤ x1 then ((-1 : Int32)) else ((S.2.2 (x1).toNatClampNeg))))
def f_Mdl_steps (S : Sc) : Int32 := S.1 12
theorem in_cellOf (x : Int32) : vp_in (f_Bus_cellOf x) 1024 := vp_mask 10 (by decide) (sub512 _ _)
theorem in_Mcell (x : Int32) : vp_in (f_Mdl_cell x) 1024 := by
  rw [show f_Mdl_cell x = f_Bus_cellOf x from (cell_c x).symm]
  exact in_cellOf x
theorem nI_mul (a b : Nat) : nI a * nI b = nI (a * b) := (Int32.ofNat_mul a b).symm
theorem in_prog (x y : Int32) : vp_in ((512 * (x &&& (1 : Int32))) + (y &&& (511 : Int32))) 1024 := by
  obtain ⟨u, hu, e1⟩ := m_lt 1 x
  obtain ⟨v, hv, e2⟩ := m_lt 9 y
  have e1 : x &&& 1 = nI u := e1
  have e2 : y &&& 511 = nI v := e2
  rw [e1, e2, show (512 : Int32) = nI 512 from rfl, nI_mul, nI_add]
  exact vp_in_nI (by omega) (by decide)
theorem in_bf {x : Int32} (h : x &&& 255 = x) : vp_in (x >>> ((6 : Int32) &&& 31)) 4 := vp_mask 2 (by decide) (by
  apply b_ext
  intro i hi
  show bt ((x >>> ((6 : Int32) &&& 31)) &&& 3) i = _
  rw [b_and, b_3 i hi, b_sshr6 x hi]
  by_cases z : i < 2
  · simp [z]
  · rw [decide_eq_false z, Bool.and_false]
    split
    · exact (r8_bt h (by omega)).symm
    · exact (r8_bt h (by omega)).symm)
theorem in_poke {x n k : Int32} (hk : 0 ≤ k) (h2 : ¬ (4 : Int32) < n) (h3 : ¬ x < 0) (h4 : x ≤ 1024 - n) (h5 : ¬ n ≤ k) : vp_in (x + k) 1024 := by
  obtain ⟨i, hi, rfl⟩ := nI_of h3
  have hk0 : ¬ k < 0 := Int32.not_lt.mpr hk
  obtain ⟨j, hj, rfl⟩ := nI_of hk0
  have hn0 : ¬ n < 0 := fun q => h5 (Int32.le_of_lt (Int32.lt_of_lt_of_le q hk))
  obtain ⟨t, ht, rfl⟩ := nI_of hn0
  have ht4 : t ≤ 4 := by
    have := h2
    rw [show (4 : Int32) = nI 4 from rfl, nI_ltI (by omega) ht] at this
    omega
  have hjt : j < t := by
    rw [nI_leI ht hj] at h5
    omega
  have e : (1024 : Int32) - nI t = nI (1024 - t) := by
    have e1 : (1024 : Int32) = nI (1024 - t) + nI t := by
      rw [nI_add, show 1024 - t + t = 1024 by omega]; rfl
    rw [e1, Int32.add_sub_cancel]
  rw [e, nI_leI hi (by omega)] at h4
  rw [nI_add]
  exact vp_in_nI (by omega) (by decide)
theorem in_peek {x : Int32} (h1 : ¬ x < 0) (h2 : ¬ (1024 : Int32) ≤ x) : vp_in x 1024 := by
  obtain ⟨i, hi, rfl⟩ := nI_of h1
  rw [show (1024 : Int32) = nI 1024 from rfl, nI_leI (by omega) hi] at h2
  exact vp_in_nI (by omega) (by decide)
theorem in_peek2 {x : Int32} (h1 : ¬ x < 0) (h2 : x < (1024 : Int32)) : vp_in x 1024 := in_peek h1 (Int32.not_le.mpr h2)
theorem in_touched {x : Int32} (h1 : ¬ x < 0) (h2 : ¬ (8 : Int32) ≤ x) : vp_in x 8 := by
  obtain ⟨i, hi, rfl⟩ := nI_of h1
  rw [show (8 : Int32) = nI 8 from rfl, nI_leI (by omega) hi] at h2
  exact vp_in_nI (by omega) (by decide)
theorem rng_nb {S S2 : Sc} {r : Int32} (e : f_Opd_nextByte S = (r, S2)) : r &&& 255 = r := by
  have h : (f_Opd_nextByte S).1 = r := by rw [e]
  rw [← h]
  exact m8 _
end
section
def zb (x : Int32) : Prop := x = 0 ∨ x = 1
def RR (S T : Sc) : Prop :=
  (S.1 0 = T.1 0 ∧ S.1 1 = T.1 1 ∧ S.1 2 = T.1 2 ∧ S.1 3 = T.1 3 ∧ S.1 4 = T.1 4 ∧ S.1 5 = T.1 5 ∧ S.1 6 = T.1 7 ∧ S.1 7 = T.1 8 ∧ S.1 8 = T.1 6 ∧ S.1 9 = T.1 13 ∧ S.1 10 = T.1 10 ∧ S.1 11 = T.1 11 ∧ S.1 12 = T.1 9 ∧ S.1 13 = T.1 12) ∧
  (r16 (S.1 0) ∧ r16 (S.1 1) ∧ r16 (S.1 2) ∧ r16 (S.1 3) ∧ r16 (S.1 4) ∧ r8 (S.1 5) ∧ r8 (S.1 6) ∧ r16 (S.1 7) ∧ r8 (S.1 8) ∧ zb (S.1 10) ∧ zb (S.1 11) ∧ zb (S.1 12)) ∧
  (∀ k, k < 1024 → S.2.1 k &&& 255 = T.2.1 k) ∧ (∀ k, k < 8 → S.2.2 (((S.1 9).toBitVec.toNat + 4294967295 - k) % 8) = T.2.2 k)
theorem RRe_0 {S T : Sc} (h : RR S T) : S.1 0 = T.1 0 := h.1.1
theorem RRe_1 {S T : Sc} (h : RR S T) : S.1 1 = T.1 1 := h.1.2.1
theorem RRe_2 {S T : Sc} (h : RR S T) : S.1 2 = T.1 2 := h.1.2.2.1
theorem RRe_3 {S T : Sc} (h : RR S T) : S.1 3 = T.1 3 := h.1.2.2.2.1
theorem RRe_4 {S T : Sc} (h : RR S T) : S.1 4 = T.1 4 := h.1.2.2.2.2.1
theorem RRe_5 {S T : Sc} (h : RR S T) : S.1 5 = T.1 5 := h.1.2.2.2.2.2.1
theorem RRe_6 {S T : Sc} (h : RR S T) : S.1 6 = T.1 7 := h.1.2.2.2.2.2.2.1
theorem RRe_7 {S T : Sc} (h : RR S T) : S.1 7 = T.1 8 := h.1.2.2.2.2.2.2.2.1
theorem RRe_8 {S T : Sc} (h : RR S T) : S.1 8 = T.1 6 := h.1.2.2.2.2.2.2.2.2.1
theorem RRe_9 {S T : Sc} (h : RR S T) : S.1 9 = T.1 13 := h.1.2.2.2.2.2.2.2.2.2.1
theorem RRe_10 {S T : Sc} (h : RR S T) : S.1 10 = T.1 10 := h.1.2.2.2.2.2.2.2.2.2.2.1
theorem RRe_11 {S T : Sc} (h : RR S T) : S.1 11 = T.1 11 := h.1.2.2.2.2.2.2.2.2.2.2.2.1
theorem RRe_12 {S T : Sc} (h : RR S T) : S.1 12 = T.1 9 := h.1.2.2.2.2.2.2.2.2.2.2.2.2.1
theorem RRe_13 {S T : Sc} (h : RR S T) : S.1 13 = T.1 12 := h.1.2.2.2.2.2.2.2.2.2.2.2.2.2
theorem RRr_0 {S T : Sc} (h : RR S T) : r16 (S.1 0) := h.2.1.1
theorem RRr_1 {S T : Sc} (h : RR S T) : r16 (S.1 1) := h.2.1.2.1
theorem RRr_2 {S T : Sc} (h : RR S T) : r16 (S.1 2) := h.2.1.2.2.1
theorem RRr_3 {S T : Sc} (h : RR S T) : r16 (S.1 3) := h.2.1.2.2.2.1
theorem RRr_4 {S T : Sc} (h : RR S T) : r16 (S.1 4) := h.2.1.2.2.2.2.1
theorem RRr_5 {S T : Sc} (h : RR S T) : r8 (S.1 5) := h.2.1.2.2.2.2.2.1
theorem RRr_6 {S T : Sc} (h : RR S T) : r8 (S.1 6) := h.2.1.2.2.2.2.2.2.1
theorem RRr_7 {S T : Sc} (h : RR S T) : r16 (S.1 7) := h.2.1.2.2.2.2.2.2.2.1
theorem RRr_8 {S T : Sc} (h : RR S T) : r8 (S.1 8) := h.2.1.2.2.2.2.2.2.2.2.1
theorem RRr_10 {S T : Sc} (h : RR S T) : zb (S.1 10) := h.2.1.2.2.2.2.2.2.2.2.2.1
theorem RRr_11 {S T : Sc} (h : RR S T) : zb (S.1 11) := h.2.1.2.2.2.2.2.2.2.2.2.2.1
theorem RRr_12 {S T : Sc} (h : RR S T) : zb (S.1 12) := h.2.1.2.2.2.2.2.2.2.2.2.2.2
theorem R_0 {S T : Sc} {v v2 : Int32} (h : RR S T) (e : v = v2) (g : r16 v) : RR (pr S 0 v) (pr T 0 v2) := by
  obtain ⟨⟨e0, e1, e2, e3, e4, e5, e6, e7, e8, e9, e10, e11, e12, e13⟩, ⟨g0, g1, g2, g3, g4, g5, g6, g7, g8, g10, g11, g12⟩, hm, hl⟩ := h
  exact ⟨⟨e, e1, e2, e3, e4, e5, e6, e7, e8, e9, e10, e11, e12, e13⟩, ⟨g, g1, g2, g3, g4, g5, g6, g7, g8, g10, g11, g12⟩, hm, hl⟩
theorem R_1 {S T : Sc} {v v2 : Int32} (h : RR S T) (e : v = v2) (g : r16 v) : RR (pr S 1 v) (pr T 1 v2) := by
  obtain ⟨⟨e0, e1, e2, e3, e4, e5, e6, e7, e8, e9, e10, e11, e12, e13⟩, ⟨g0, g1, g2, g3, g4, g5, g6, g7, g8, g10, g11, g12⟩, hm, hl⟩ := h
  exact ⟨⟨e0, e, e2, e3, e4, e5, e6, e7, e8, e9, e10, e11, e12, e13⟩, ⟨g0, g, g2, g3, g4, g5, g6, g7, g8, g10, g11, g12⟩, hm, hl⟩
theorem R_2 {S T : Sc} {v v2 : Int32} (h : RR S T) (e : v = v2) (g : r16 v) : RR (pr S 2 v) (pr T 2 v2) := by
  obtain ⟨⟨e0, e1, e2, e3, e4, e5, e6, e7, e8, e9, e10, e11, e12, e13⟩, ⟨g0, g1, g2, g3, g4, g5, g6, g7, g8, g10, g11, g12⟩, hm, hl⟩ := h
  exact ⟨⟨e0, e1, e, e3, e4, e5, e6, e7, e8, e9, e10, e11, e12, e13⟩, ⟨g0, g1, g, g3, g4, g5, g6, g7, g8, g10, g11, g12⟩, hm, hl⟩
theorem R_3 {S T : Sc} {v v2 : Int32} (h : RR S T) (e : v = v2) (g : r16 v) : RR (pr S 3 v) (pr T 3 v2) := by
  obtain ⟨⟨e0, e1, e2, e3, e4, e5, e6, e7, e8, e9, e10, e11, e12, e13⟩, ⟨g0, g1, g2, g3, g4, g5, g6, g7, g8, g10, g11, g12⟩, hm, hl⟩ := h
  exact ⟨⟨e0, e1, e2, e, e4, e5, e6, e7, e8, e9, e10, e11, e12, e13⟩, ⟨g0, g1, g2, g, g4, g5, g6, g7, g8, g10, g11, g12⟩, hm, hl⟩
theorem R_4 {S T : Sc} {v v2 : Int32} (h : RR S T) (e : v = v2) (g : r16 v) : RR (pr S 4 v) (pr T 4 v2) := by
  obtain ⟨⟨e0, e1, e2, e3, e4, e5, e6, e7, e8, e9, e10, e11, e12, e13⟩, ⟨g0, g1, g2, g3, g4, g5, g6, g7, g8, g10, g11, g12⟩, hm, hl⟩ := h
  exact ⟨⟨e0, e1, e2, e3, e, e5, e6, e7, e8, e9, e10, e11, e12, e13⟩, ⟨g0, g1, g2, g3, g, g5, g6, g7, g8, g10, g11, g12⟩, hm, hl⟩
theorem R_5 {S T : Sc} {v v2 : Int32} (h : RR S T) (e : v = v2) (g : r8 v) : RR (pr S 5 v) (pr T 5 v2) := by
  obtain ⟨⟨e0, e1, e2, e3, e4, e5, e6, e7, e8, e9, e10, e11, e12, e13⟩, ⟨g0, g1, g2, g3, g4, g5, g6, g7, g8, g10, g11, g12⟩, hm, hl⟩ := h
  exact ⟨⟨e0, e1, e2, e3, e4, e, e6, e7, e8, e9, e10, e11, e12, e13⟩, ⟨g0, g1, g2, g3, g4, g, g6, g7, g8, g10, g11, g12⟩, hm, hl⟩
theorem R_6 {S T : Sc} {v v2 : Int32} (h : RR S T) (e : v = v2) (g : r8 v) : RR (pr S 6 v) (pr T 7 v2) := by
  obtain ⟨⟨e0, e1, e2, e3, e4, e5, e6, e7, e8, e9, e10, e11, e12, e13⟩, ⟨g0, g1, g2, g3, g4, g5, g6, g7, g8, g10, g11, g12⟩, hm, hl⟩ := h
  exact ⟨⟨e0, e1, e2, e3, e4, e5, e, e7, e8, e9, e10, e11, e12, e13⟩, ⟨g0, g1, g2, g3, g4, g5, g, g7, g8, g10, g11, g12⟩, hm, hl⟩
theorem R_7 {S T : Sc} {v v2 : Int32} (h : RR S T) (e : v = v2) (g : r16 v) : RR (pr S 7 v) (pr T 8 v2) := by
  obtain ⟨⟨e0, e1, e2, e3, e4, e5, e6, e7, e8, e9, e10, e11, e12, e13⟩, ⟨g0, g1, g2, g3, g4, g5, g6, g7, g8, g10, g11, g12⟩, hm, hl⟩ := h
  exact ⟨⟨e0, e1, e2, e3, e4, e5, e6, e, e8, e9, e10, e11, e12, e13⟩, ⟨g0, g1, g2, g3, g4, g5, g6, g, g8, g10, g11, g12⟩, hm, hl⟩
theorem R_8 {S T : Sc} {v v2 : Int32} (h : RR S T) (e : v = v2) (g : r8 v) : RR (pr S 8 v) (pr T 6 v2) := by
  obtain ⟨⟨e0, e1, e2, e3, e4, e5, e6, e7, e8, e9, e10, e11, e12, e13⟩, ⟨g0, g1, g2, g3, g4, g5, g6, g7, g8, g10, g11, g12⟩, hm, hl⟩ := h
  exact ⟨⟨e0, e1, e2, e3, e4, e5, e6, e7, e, e9, e10, e11, e12, e13⟩, ⟨g0, g1, g2, g3, g4, g5, g6, g7, g, g10, g11, g12⟩, hm, hl⟩
theorem R_10 {S T : Sc} {v v2 : Int32} (h : RR S T) (e : v = v2) (g : zb v) : RR (pr S 10 v) (pr T 10 v2) := by
  obtain ⟨⟨e0, e1, e2, e3, e4, e5, e6, e7, e8, e9, e10, e11, e12, e13⟩, ⟨g0, g1, g2, g3, g4, g5, g6, g7, g8, g10, g11, g12⟩, hm, hl⟩ := h
  exact ⟨⟨e0, e1, e2, e3, e4, e5, e6, e7, e8, e9, e, e11, e12, e13⟩, ⟨g0, g1, g2, g3, g4, g5, g6, g7, g8, g, g11, g12⟩, hm, hl⟩
theorem R_11 {S T : Sc} {v v2 : Int32} (h : RR S T) (e : v = v2) (g : zb v) : RR (pr S 11 v) (pr T 11 v2) := by
  obtain ⟨⟨e0, e1, e2, e3, e4, e5, e6, e7, e8, e9, e10, e11, e12, e13⟩, ⟨g0, g1, g2, g3, g4, g5, g6, g7, g8, g10, g11, g12⟩, hm, hl⟩ := h
  exact ⟨⟨e0, e1, e2, e3, e4, e5, e6, e7, e8, e9, e10, e, e12, e13⟩, ⟨g0, g1, g2, g3, g4, g5, g6, g7, g8, g10, g, g12⟩, hm, hl⟩
theorem R_12 {S T : Sc} {v v2 : Int32} (h : RR S T) (e : v = v2) (g : zb v) : RR (pr S 12 v) (pr T 9 v2) := by
  obtain ⟨⟨e0, e1, e2, e3, e4, e5, e6, e7, e8, e9, e10, e11, e12, e13⟩, ⟨g0, g1, g2, g3, g4, g5, g6, g7, g8, g10, g11, g12⟩, hm, hl⟩ := h
  exact ⟨⟨e0, e1, e2, e3, e4, e5, e6, e7, e8, e9, e10, e11, e, e13⟩, ⟨g0, g1, g2, g3, g4, g5, g6, g7, g8, g10, g11, g⟩, hm, hl⟩
theorem R_13 {S T : Sc} {v v2 : Int32} (h : RR S T) (e : v = v2) : RR (pr S 13 v) (pr T 12 v2) := by
  obtain ⟨⟨e0, e1, e2, e3, e4, e5, e6, e7, e8, e9, e10, e11, e12, e13⟩, ⟨g0, g1, g2, g3, g4, g5, g6, g7, g8, g10, g11, g12⟩, hm, hl⟩ := h
  exact ⟨⟨e0, e1, e2, e3, e4, e5, e6, e7, e8, e9, e10, e11, e12, e⟩, ⟨g0, g1, g2, g3, g4, g5, g6, g7, g8, g10, g11, g12⟩, hm, hl⟩
theorem R_14 {S T : Sc} {v : Int32} (h : RR S T) : RR S (pr T 14 v) := h
theorem R_15 {S T : Sc} {v : Int32} (h : RR S T) : RR S (pr T 15 v) := h
def WN (w n : Int32) : Prop := (w = 1 ∧ n = 0) ∨ (w = 0 ∧ n = 1)
theorem WN_p {S T : Sc} (e : S.1 8 = T.1 6) (f : Int32) : WN (if ((S.1 8) &&& f) = (0 : Int32) then (1 : Int32) else (0 : Int32)) (f_Mdl_is T f) := by
  unfold f_Mdl_is
  rw [e]
  by_cases z : (T.1 6 &&& f) = 0
  · rw [if_pos z, if_pos z]; exact Or.inl ⟨rfl, rfl⟩
  · rw [if_neg z, if_neg z]; exact Or.inr ⟨rfl, rfl⟩
theorem WN_A {S T : Sc} (h : RR S T) : WN (f_Reg_wideA S) (f_Mdl_is T 32) := WN_p (RRe_8 h) 32
theorem WN_I {S T : Sc} (h : RR S T) : WN (f_Reg_wideIndex S) (f_Mdl_is T 16) := WN_p (RRe_8 h) 16
theorem RR_pm {S T : Sc} (h : RR S T) (k : Nat) {v v2 : Int32} (e : v &&& 255 = v2) : RR (pm S k v) (pm T k v2) := by
  refine ⟨h.1, h.2.1, fun j hj => ?_, h.2.2.2⟩
  show upd S.2.1 k v j &&& 255 = upd T.2.1 k v2 j
  unfold upd
  by_cases z : j = k
  · rw [if_pos z, if_pos z]; exact e
  · rw [if_neg z, if_neg z]; exact h.2.2.1 j hj
theorem and7_n (x : Int32) : (x &&& 7).toNatClampNeg = x.toBitVec.toNat % 8 := by
  have e : x &&& 7 = nI (x.toBitVec.toNat % 2 ^ 3) := by
    rw [← nx_pm, ← x32 x]; rfl
  rw [e, nI_clamp (by omega)]
theorem inc_n (x : Int32) : (x + 1).toBitVec.toNat = (x.toBitVec.toNat + 1) % 4294967296 := by
  rw [Int32.toBitVec_add, BitVec.toNat_add]; rfl
theorem s_touch {S T : Sc} (h : RR S T) (v : Int32) : RR (pr (pl S ((S.1 9 &&& (7 : Int32)).toNatClampNeg) v) 9 (S.1 9 + (1 : Int32))) (f_Mdl_touch T v) := by
  have hl := h.2.2.2
  obtain ⟨⟨e0, e1, e2, e3, e4, e5, e6, e7, e8, e9, e10, e11, e12, e13⟩, g, hm, -⟩ := h
  refine ⟨⟨e0, e1, e2, e3, e4, e5, e6, e7, e8, by show S.1 9 + 1 = T.1 13 + 1; rw [e9], e10, e11, e12, e13⟩, g, hm, fun k hk => ?_⟩
  show upd S.2.2 ((S.1 9 &&& (7 : Int32)).toNatClampNeg) v (((S.1 9 + (1 : Int32)).toBitVec.toNat + 4294967295 - k) % 8) = (f_Mdl_touch T v).2.2 k
  rw [and7_n, inc_n]
  generalize hn : (S.1 9).toBitVec.toNat = n at hl
  unfold upd
  match k, hk with
  | 0, _ => rw [if_pos (by omega)]; rfl
  | 1, _ => rw [if_neg (by omega), show ((n + 1) % 4294967296 + 4294967295 - 1) % 8 = (n + 4294967295 - 0) % 8 by omega]; exact hl 0 (by omega)
  | 2, _ => rw [if_neg (by omega), show ((n + 1) % 4294967296 + 4294967295 - 2) % 8 = (n + 4294967295 - 1) % 8 by omega]; exact hl 1 (by omega)
  | 3, _ => rw [if_neg (by omega), show ((n + 1) % 4294967296 + 4294967295 - 3) % 8 = (n + 4294967295 - 2) % 8 by omega]; exact hl 2 (by omega)
  | 4, _ => rw [if_neg (by omega), show ((n + 1) % 4294967296 + 4294967295 - 4) % 8 = (n + 4294967295 - 3) % 8 by omega]; exact hl 3 (by omega)
  | 5, _ => rw [if_neg (by omega), show ((n + 1) % 4294967296 + 4294967295 - 5) % 8 = (n + 4294967295 - 4) % 8 by omega]; exact hl 4 (by omega)
  | 6, _ => rw [if_neg (by omega), show ((n + 1) % 4294967296 + 4294967295 - 6) % 8 = (n + 4294967295 - 5) % 8 by omega]; exact hl 5 (by omega)
  | 7, _ => rw [if_neg (by omega), show ((n + 1) % 4294967296 + 4294967295 - 7) % 8 = (n + 4294967295 - 6) % 8 by omega]; exact hl 6 (by omega)
  | k + 8, h => exact absurd h (by omega)
theorem c_cell (x : Int32) : f_Bus_cellOf x = f_Mdl_cell x := cell_c x
theorem c_cell0 (x : Int32) : f_Bus_cellOf (f_Bus_bank0Place x) = f_Mdl_cell (x &&& 65535) := by
  rw [← c_cell]
  show (((((16777216 : Int32) ||| (x &&& 65535)) >>> ((7 : Int32) &&& 31)) &&& 512) ||| (((16777216 : Int32) ||| (x &&& 65535)) &&& 511)) = ((((x &&& 65535) >>> ((7 : Int32) &&& 31)) &&& 512) ||| ((x &&& 65535) &&& 511))
  have hb : bt (x &&& 65535) 16 = false := r16_bt (m16 x) (Nat.le_refl _)
  rw [t_512, t_512, mk_16, hb, mk_511, Int32.and_assoc]; rfl
theorem lt_vp {x : Int32} {n : Nat} (h : vp_in x n) : x.toNatClampNeg < n := Nat.not_le.mp fun q => h (Or.inr q)
theorem s_read {S T : Sc} {c q : Int32} (h : RR S T) (hc : f_Bus_cellOf c = f_Mdl_cell q) : (f_Bus_readByte S c).1 = (f_Mdl_read T q).1 ∧ r8 (f_Bus_readByte S c).1 ∧ RR (f_Bus_readByte S c).2 (f_Mdl_read T q).2 := by
  refine ⟨?_, m8 _, ?_⟩
  · show S.2.1 (f_Bus_cellOf c).toNatClampNeg &&& 255 = T.2.1 (f_Mdl_cell q).toNatClampNeg
    rw [← hc]
    exact h.2.2.1 _ (lt_vp (in_cellOf c))
  · show RR (pr (pl S ((S.1 9 &&& (7 : Int32)).toNatClampNeg) (f_Bus_cellOf c)) 9 (S.1 9 + (1 : Int32))) (f_Mdl_touch T (f_Mdl_cell q))
    rw [hc]
    exact s_touch h _
theorem nar_255 (b : Int32) : vp_nar .byte (b.toInt8.toInt32) &&& 255 = b &&& 255 := by rw [vp_nar_byte, bp_b, bp_b]
theorem s_write {S T : Sc} {c q b b2 : Int32} (h : RR S T) (hc : f_Bus_cellOf c = f_Mdl_cell q) (e : b &&& 255 = b2 &&& 255) : RR (f_Bus_writeByte S c b) (f_Mdl_write T q b2) := by
  show RR (pm (pr (pl S ((S.1 9 &&& (7 : Int32)).toNatClampNeg) (f_Bus_cellOf c + 1024)) 9 (S.1 9 + (1 : Int32))) (f_Bus_cellOf c).toNatClampNeg (vp_nar .byte (b.toInt8.toInt32))) (pm (f_Mdl_touch T (f_Mdl_cell q + 1024)) (f_Mdl_cell q).toNatClampNeg (b2 &&& 255))
  rw [hc]
  exact RR_pm (s_touch h _) _ ((nar_255 b).trans e)
def PR (c pl nr : Int32) : Prop := (nr = 0 ∧ c = pl ∧ r24 pl) ∨ (nr = 1 ∧ c = f_Bus_bank0Place pl ∧ r16 pl)
theorem PR_cell {c pl nr : Int32} (h : PR c pl nr) : f_Bus_cellOf c = f_Mdl_cell pl := by
  rcases h with ⟨-, rfl, -⟩ | ⟨-, rfl, h⟩
  · exact c_cell _
  · rw [c_cell0, h]
theorem mk_add {y : Int32} (h : r16 y) : (((16777216 : Int32) ||| y) + 1) &&& 65535 = (y + 1) &&& 65535 := by
  obtain ⟨n, hn, rfl⟩ := r16_nI h
  have e : (16777216 : Int32) ||| nI n = nI (16777216 + n) := by
    rw [← nI_add, add_or]; rfl
    show nI 16777216 &&& nI n = 0
    apply b_ext
    intro i hi
    rw [b_and, b_0]
    by_cases z : i < 16
    · have := b_mk i hi
      rw [show nI 16777216 = (16777216 : Int32) from rfl, this, decide_eq_false (by omega), Bool.false_and]
    · rw [r16_bt h (by omega), Bool.and_false]
  rw [e, nI_1, nI_1, nx_mod, nx_mod]
  congr 1
  omega
theorem PR_after {c pl nr : Int32} (h : PR c pl nr) : PR (f_Bus_placeAfter c) (f_Mdl_after pl nr) nr := by
  rcases h with ⟨rfl, rfl, h⟩ | ⟨rfl, rfl, h⟩
  · refine Or.inl ⟨rfl, ?_, m24 _⟩
    have z : (c &&& (16777216 : Int32)) = 0 := by
      rw [← h, Int32.and_assoc]
      exact Int32.and_zero
    unfold f_Bus_placeAfter
    rw [if_pos z]; rfl
  · have e : f_Mdl_after pl 1 = (pl + 1) &&& 65535 := by
      show (pl &&& (16711680 : Int32)) ||| ((pl + 1) &&& 65535) = _
      rw [← h, Int32.and_assoc]
      show (pl &&& 0) ||| _ = _
      rw [Int32.and_zero, Int32.zero_or]
    refine Or.inr ⟨rfl, ?_, by rw [e]; exact m16 _⟩
    unfold f_Bus_placeAfter
    rw [if_neg (show ¬ (f_Bus_bank0Place pl &&& (16777216 : Int32)) = 0 from mk_24 pl), e]
    show (16777216 : Int32) ||| ((((16777216 : Int32) ||| (pl &&& 65535)) + 1) &&& 65535) = (16777216 : Int32) ||| (((pl + 1) &&& 65535) &&& 65535)
    rw [h, mk_add h, m16]
theorem PR_near {x : Int32} (h : r16 x) : PR (f_Bus_bank0Place x) x 1 := Or.inr ⟨rfl, rfl, h⟩
theorem PR_b0 (x : Int32) : PR (f_Bus_bank0Place x) (x &&& 65535) 1 := Or.inr ⟨rfl, by show (16777216 : Int32) ||| (x &&& 65535) = (16777216 : Int32) ||| ((x &&& 65535) &&& 65535); rw [m16], m16 x⟩
theorem s_rw {S T : Sc} {c pl nr : Int32} (h : RR S T) (hp : PR c pl nr) : (f_Bus_readWord S c).1 = (f_Mdl_readWord T pl nr).1 ∧ r16 (f_Bus_readWord S c).1 ∧ RR (f_Bus_readWord S c).2 (f_Mdl_readWord T pl nr).2 := by
  obtain ⟨a1, a2, a3⟩ := s_read h (PR_cell hp)
  obtain ⟨b1, b2, b3⟩ := s_read a3 (PR_cell (PR_after hp))
  refine ⟨?_, w16 a2 b2, b3⟩
  show _ ||| _ <<< _ = _ ||| _ <<< _
  rw [a1, b1]
theorem s_next {S T : Sc} (h : RR S T) : (f_Opd_nextByte S).1 = (f_Mdl_next T).1 ∧ r8 (f_Opd_nextByte S).1 ∧ RR (f_Opd_nextByte S).2 (f_Mdl_next T).2 := by
  have e6 := RRe_6 h
  have e7 := RRe_7 h
  refine ⟨?_, m8 _, R_7 h (by rw [e7]) (m16 _)⟩
  show S.2.1 ((512 * (S.1 6 &&& (1 : Int32))) + (S.1 7 &&& (511 : Int32))).toNatClampNeg &&& 255 = T.2.1 (f_Mdl_cell ((T.1 7 <<< ((16 : Int32) &&& 31)) ||| T.1 8)).toNatClampNeg
  have e : (512 * (S.1 6 &&& (1 : Int32))) + (S.1 7 &&& (511 : Int32)) = f_Mdl_cell ((T.1 7 <<< ((16 : Int32) &&& 31)) ||| T.1 8) := by
    show _ = (512 * ((((T.1 7 <<< ((16 : Int32) &&& 31)) ||| T.1 8) >>> ((16 : Int32) &&& 31)) &&& 1)) + (((T.1 7 <<< ((16 : Int32) &&& 31)) ||| T.1 8) &&& 511)
    rw [t_1, pb_511, bt_pb (by rw [← e7]; exact RRr_7 h), ← e6, ← e7, t_b1]
  rw [e]
  exact h.2.2.1 _ (lt_vp (by rw [← e]; exact in_prog _ _))
theorem s_nw {S T : Sc} (h : RR S T) : (f_Opd_nextWord S).1 = (f_Mdl_nextWord T).1 ∧ r16 (f_Opd_nextWord S).1 ∧ RR (f_Opd_nextWord S).2 (f_Mdl_nextWord T).2 := by
  obtain ⟨a1, a2, a3⟩ := s_next h
  obtain ⟨b1, b2, b3⟩ := s_next a3
  refine ⟨?_, w16 a2 b2, b3⟩
  show _ ||| _ <<< _ = _ ||| _ <<< _
  rw [a1, b1]
theorem s_nl {S T : Sc} (h : RR S T) : (f_Opd_nextLong S).1 = (f_Mdl_nextLong T).1 ∧ r24 (f_Opd_nextLong S).1 ∧ RR (f_Opd_nextLong S).2 (f_Mdl_nextLong T).2 := by
  obtain ⟨a1, a2, a3⟩ := s_nw h
  obtain ⟨b1, b2, b3⟩ := s_next a3
  refine ⟨?_, w24 a2 b2, b3⟩
  show (f_Opd_nextWord S).1 ||| (f_Opd_nextByte (f_Opd_nextWord S).2).1 <<< ((16 : Int32) &&& 31) = (f_Mdl_nextWord T).1 ||| (f_Mdl_next (f_Mdl_nextWord T).2).1 <<< ((16 : Int32) &&& 31)
  rw [a1, b1]
theorem s_nv {S T : Sc} {w n : Int32} (h : RR S T) (hw : WN w n) : (f_Opd_nextValue S w).1 = (f_Mdl_immediate T n).1 ∧ r16 (f_Opd_nextValue S w).1 ∧ RR (f_Opd_nextValue S w).2 (f_Mdl_immediate T n).2 := by
  rcases hw with ⟨rfl, rfl⟩ | ⟨rfl, rfl⟩
  · exact s_nw h
  · exact ⟨(s_next h).1, r8_16 (s_next h).2.1, (s_next h).2.2⟩
theorem s_push {S T : Sc} {b b2 : Int32} (h : RR S T) (e : b &&& 255 = b2 &&& 255) : RR (f_Stk_pushByte S b) (f_Mdl_push T b2) := by
  have e3 := RRe_3 h
  have g3 := RRr_3 h
  refine R_3 (s_write h ?_ e) (by show (S.1 3 - 1) &&& 65535 = (T.1 3 - 1) &&& 65535; rw [e3]) (m16 _)
  rw [← e3, c_cell0, g3]
theorem s_pushW {S T : Sc} {v : Int32} (h : RR S T) : RR (f_Stk_pushWord S v) (f_Mdl_pushWord T v) := s_push (s_push h rfl) rfl
theorem s_pull {S T : Sc} (h : RR S T) : (f_Stk_pullByte S).1 = (f_Mdl_pull T).1 ∧ r8 (f_Stk_pullByte S).1 ∧ RR (f_Stk_pullByte S).2 (f_Mdl_pull T).2 := by
  have e3 := RRe_3 h
  have h2 : RR (pr S 3 ((S.1 3 + 1) &&& 65535)) (pr T 3 ((T.1 3 + 1) &&& 65535)) := R_3 h (by rw [e3]) (m16 _)
  exact s_read h2 (by rw [c_cell0, m16, e3])
theorem s_pullW {S T : Sc} (h : RR S T) : (f_Stk_pullWord S).1 = (f_Mdl_pullWord T).1 ∧ r16 (f_Stk_pullWord S).1 ∧ RR (f_Stk_pullWord S).2 (f_Mdl_pullWord T).2 := by
  obtain ⟨a1, a2, a3⟩ := s_pull h
  obtain ⟨b1, b2, b3⟩ := s_pull a3
  refine ⟨?_, w16 a2 b2, b3⟩
  show (f_Stk_pullByte S).1 ||| (f_Stk_pullByte (f_Stk_pullByte S).2).1 <<< ((8 : Int32) &&& 31) = (f_Mdl_pull T).1 ||| (f_Mdl_pull (f_Mdl_pull T).2).1 <<< ((8 : Int32) &&& 31)
  rw [a1, b1]
theorem s_load {S T : Sc} {c w n : Int32} (h : RR S T) (hp : PR c (T.1 14) (T.1 15)) (hw : WN w n) : (f_Bus_readValue S c w).1 = (f_Mdl_load T n).1 ∧ r16 (f_Bus_readValue S c w).1 ∧ RR (f_Bus_readValue S c w).2 (f_Mdl_load T n).2 := by
  rcases hw with ⟨rfl, rfl⟩ | ⟨rfl, rfl⟩
  · exact s_rw h hp
  · exact ⟨(s_read h (PR_cell hp)).1, r8_16 (s_read h (PR_cell hp)).2.1, (s_read h (PR_cell hp)).2.2⟩
theorem s_store {S T : Sc} {c v v2 w n : Int32} (h : RR S T) (hp : PR c (T.1 14) (T.1 15)) (hw : WN w n) (e : v &&& 255 = v2 &&& 255) (e2 : n = 0 → v = v2) : RR (f_Bus_writeValue S c v w) (f_Mdl_store T v2 n) := by
  rcases hw with ⟨rfl, rfl⟩ | ⟨rfl, rfl⟩
  · have e2 := e2 rfl
    subst e2
    exact s_write (s_write h (PR_cell hp) rfl) (PR_cell (PR_after hp)) rfl
  · exact s_write h (PR_cell hp) e
end
section
theorem pr_pr (S : Sc) (k : Nat) (u v : Int32) : pr (pr S k u) k v = pr S k v := by
  have e : upd (upd S.1 k u) k v = upd S.1 k v := by
    funext j
    unfold upd
    by_cases h : j = k
    · rw [if_pos h, if_pos h]
    · rw [if_neg h, if_neg h, if_neg h]
  show (upd (upd S.1 k u) k v, S.2) = (upd S.1 k v, S.2)
  rw [e]
theorem pr_comm (S : Sc) {j k : Nat} (hn : j ≠ k) (u v : Int32) : pr (pr S j u) k v = pr (pr S k v) j u := by
  have e : upd (upd S.1 j u) k v = upd (upd S.1 k v) j u := by
    funext i
    unfold upd
    by_cases h : i = k
    · rw [if_pos h, if_neg (fun q => hn (q.symm.trans h)), if_pos h]
    · rw [if_neg h]
      by_cases h2 : i = j
      · rw [if_pos h2, if_pos h2]
      · rw [if_neg h2, if_neg h2, if_neg h]
  show (upd (upd S.1 j u) k v, S.2) = (upd (upd S.1 k v) j u, S.2)
  rw [e]
theorem r8_and {x : Int32} (h : r8 x) (y : Int32) : r8 (x &&& y) := bt_r8 fun i _ hi => by rw [b_and, r8_bt h hi, Bool.false_and]
theorem r8_or {x y : Int32} (h : r8 x) (h2 : r8 y) : r8 (x ||| y) := bt_r8 fun i _ hi => by rw [b_or, r8_bt h hi, r8_bt h2 hi]; rfl
theorem r16_and {x : Int32} (h : r16 x) (y : Int32) : r16 (x &&& y) := bt_r16 fun i _ hi => by rw [b_and, r16_bt h hi, Bool.false_and]
theorem r16_or {x y : Int32} (h : r16 x) (h2 : r16 y) : r16 (x ||| y) := bt_r16 fun i _ hi => by rw [b_or, r16_bt h hi, r16_bt h2 hi]; rfl
theorem s_flag {S T : Sc} (h : RR S T) (f b : Int32) (hf : r8 f) : RR (f_Reg_putFlag S f b) (f_Mdl_flag T f b) := by
  unfold f_Reg_putFlag f_Mdl_flag
  by_cases z : b = 0
  · rw [if_pos z, if_pos z]; exact R_8 h (by rw [RRe_8 h]) (r8_and (RRr_8 h) _)
  · rw [if_neg z, if_neg z]; exact R_8 h (by rw [RRe_8 h]) (r8_or (RRr_8 h) hf)
theorem fl_00 : ∀ k, k < 256 → (((nI k &&& (-131 : Int32)) ||| (0 : Int32)) ||| (0 : Int32)) = ((nI k &&& ((128 : Int32) ^^^ (-1 : Int32))) &&& ((2 : Int32) ^^^ (-1 : Int32))) := by decide +kernel
theorem sh_00 {S T : Sc} (h : RR S T) : RR (pr S 8 (((S.1 8 &&& (-131 : Int32)) ||| (0 : Int32)) ||| (0 : Int32))) (f_Mdl_flag (f_Mdl_flag T 128 0) 2 0) := by
  obtain ⟨k, hk, ep⟩ := r8_nI (RRr_8 h)
  have e := RRe_8 h
  show RR _ (pr (pr T 6 (T.1 6 &&& ((128 : Int32) ^^^ (-1 : Int32)))) 6 ((T.1 6 &&& ((128 : Int32) ^^^ (-1 : Int32))) &&& ((2 : Int32) ^^^ (-1 : Int32))))
  rw [pr_pr]
  exact R_8 h (by rw [← e, ep]; exact fl_00 k hk) (r8_or (r8_or (r8_and (RRr_8 h) _) (by decide)) (by decide))
theorem fl_01 : ∀ k, k < 256 → (((nI k &&& (-131 : Int32)) ||| (0 : Int32)) ||| (2 : Int32)) = ((nI k &&& ((128 : Int32) ^^^ (-1 : Int32))) ||| (2 : Int32)) := by decide +kernel
theorem sh_01 {S T : Sc} (h : RR S T) : RR (pr S 8 (((S.1 8 &&& (-131 : Int32)) ||| (0 : Int32)) ||| (2 : Int32))) (f_Mdl_flag (f_Mdl_flag T 128 0) 2 1) := by
  obtain ⟨k, hk, ep⟩ := r8_nI (RRr_8 h)
  have e := RRe_8 h
  show RR _ (pr (pr T 6 (T.1 6 &&& ((128 : Int32) ^^^ (-1 : Int32)))) 6 ((T.1 6 &&& ((128 : Int32) ^^^ (-1 : Int32))) ||| (2 : Int32)))
  rw [pr_pr]
  exact R_8 h (by rw [← e, ep]; exact fl_01 k hk) (r8_or (r8_or (r8_and (RRr_8 h) _) (by decide)) (by decide))
theorem fl_10 : ∀ k, k < 256 → (((nI k &&& (-131 : Int32)) ||| (128 : Int32)) ||| (0 : Int32)) = ((nI k ||| (128 : Int32)) &&& ((2 : Int32) ^^^ (-1 : Int32))) := by decide +kernel
theorem sh_10 {S T : Sc} (h : RR S T) : RR (pr S 8 (((S.1 8 &&& (-131 : Int32)) ||| (128 : Int32)) ||| (0 : Int32))) (f_Mdl_flag (f_Mdl_flag T 128 1) 2 0) := by
  obtain ⟨k, hk, ep⟩ := r8_nI (RRr_8 h)
  have e := RRe_8 h
  show RR _ (pr (pr T 6 (T.1 6 ||| (128 : Int32))) 6 ((T.1 6 ||| (128 : Int32)) &&& ((2 : Int32) ^^^ (-1 : Int32))))
  rw [pr_pr]
  exact R_8 h (by rw [← e, ep]; exact fl_10 k hk) (r8_or (r8_or (r8_and (RRr_8 h) _) (by decide)) (by decide))
theorem fl_11 : ∀ k, k < 256 → (((nI k &&& (-131 : Int32)) ||| (128 : Int32)) ||| (2 : Int32)) = ((nI k ||| (128 : Int32)) ||| (2 : Int32)) := by decide +kernel
theorem sh_11 {S T : Sc} (h : RR S T) : RR (pr S 8 (((S.1 8 &&& (-131 : Int32)) ||| (128 : Int32)) ||| (2 : Int32))) (f_Mdl_flag (f_Mdl_flag T 128 1) 2 1) := by
  obtain ⟨k, hk, ep⟩ := r8_nI (RRr_8 h)
  have e := RRe_8 h
  show RR _ (pr (pr T 6 (T.1 6 ||| (128 : Int32))) 6 ((T.1 6 ||| (128 : Int32)) ||| (2 : Int32)))
  rw [pr_pr]
  exact R_8 h (by rw [← e, ep]; exact fl_11 k hk) (r8_or (r8_or (r8_and (RRr_8 h) _) (by decide)) (by decide))
theorem s_show {S T : Sc} {v w n : Int32} (h : RR S T) (hw : WN w n) : (f_Mdl_result T v n).1 = v &&& f_Reg_maskOf w ∧ RR (f_Reg_showResult S (v &&& f_Reg_maskOf w) w) (f_Mdl_result T v n).2 := by
  rcases hw with ⟨rfl, rfl⟩ | ⟨rfl, rfl⟩
  · show (f_Mdl_result T v 0).1 = v &&& 65535 ∧ RR (f_Reg_showResult S (v &&& 65535) 1) (f_Mdl_result T v 0).2
    have e2 : f_Reg_signOf 1 = (32768 : Int32) := rfl
    have e3 : f_Mdl_cut v 0 = v &&& 65535 := rfl
    by_cases a : ((v &&& (65535 : Int32)) &&& (32768 : Int32)) = 0
    · by_cases b : (v &&& (65535 : Int32)) = (0 : Int32)
      · have A : f_Reg_showResult S (v &&& 65535) 1 = pr S 8 (((S.1 8 &&& (-131 : Int32)) ||| (0 : Int32)) ||| (2 : Int32)) := by
          unfold f_Reg_showResult
          rw [e2, if_pos a, if_pos b]
        have B : f_Mdl_result T v 0 = (v &&& 65535, f_Mdl_flag (f_Mdl_flag T 128 0) 2 1) := by
          unfold f_Mdl_result
          rw [if_pos (rfl : (0 : Int32) = 0), e3, if_pos a]
          show (if (v &&& (65535 : Int32)) = (0 : Int32) then _ else _) = _
          rw [if_pos b]; rfl
        rw [A, B]; exact ⟨rfl, sh_01 h⟩
      · have A : f_Reg_showResult S (v &&& 65535) 1 = pr S 8 (((S.1 8 &&& (-131 : Int32)) ||| (0 : Int32)) ||| (0 : Int32)) := by
          unfold f_Reg_showResult
          rw [e2, if_pos a, if_neg b]
        have B : f_Mdl_result T v 0 = (v &&& 65535, f_Mdl_flag (f_Mdl_flag T 128 0) 2 0) := by
          unfold f_Mdl_result
          rw [if_pos (rfl : (0 : Int32) = 0), e3, if_pos a]
          show (if (v &&& (65535 : Int32)) = (0 : Int32) then _ else _) = _
          rw [if_neg b]; rfl
        rw [A, B]; exact ⟨rfl, sh_00 h⟩
    · by_cases b : (v &&& (65535 : Int32)) = (0 : Int32)
      · have A : f_Reg_showResult S (v &&& 65535) 1 = pr S 8 (((S.1 8 &&& (-131 : Int32)) ||| (128 : Int32)) ||| (2 : Int32)) := by
          unfold f_Reg_showResult
          rw [e2, if_neg a, if_pos b]
        have B : f_Mdl_result T v 0 = (v &&& 65535, f_Mdl_flag (f_Mdl_flag T 128 1) 2 1) := by
          unfold f_Mdl_result
          rw [if_pos (rfl : (0 : Int32) = 0), e3, if_neg a]
          show (if (v &&& (65535 : Int32)) = (0 : Int32) then _ else _) = _
          rw [if_pos b]; rfl
        rw [A, B]; exact ⟨rfl, sh_11 h⟩
      · have A : f_Reg_showResult S (v &&& 65535) 1 = pr S 8 (((S.1 8 &&& (-131 : Int32)) ||| (128 : Int32)) ||| (0 : Int32)) := by
          unfold f_Reg_showResult
          rw [e2, if_neg a, if_neg b]
        have B : f_Mdl_result T v 0 = (v &&& 65535, f_Mdl_flag (f_Mdl_flag T 128 1) 2 0) := by
          unfold f_Mdl_result
          rw [if_pos (rfl : (0 : Int32) = 0), e3, if_neg a]
          show (if (v &&& (65535 : Int32)) = (0 : Int32) then _ else _) = _
          rw [if_neg b]; rfl
        rw [A, B]; exact ⟨rfl, sh_10 h⟩
  · show (f_Mdl_result T v 1).1 = v &&& 255 ∧ RR (f_Reg_showResult S (v &&& 255) 0) (f_Mdl_result T v 1).2
    have e2 : f_Reg_signOf 0 = (128 : Int32) := rfl
    have e3 : f_Mdl_cut v 1 = v &&& 255 := rfl
    by_cases a : ((v &&& (255 : Int32)) &&& (128 : Int32)) = 0
    · by_cases b : (v &&& (255 : Int32)) = (0 : Int32)
      · have A : f_Reg_showResult S (v &&& 255) 0 = pr S 8 (((S.1 8 &&& (-131 : Int32)) ||| (0 : Int32)) ||| (2 : Int32)) := by
          unfold f_Reg_showResult
          rw [e2, if_pos a, if_pos b]
        have B : f_Mdl_result T v 1 = (v &&& 255, f_Mdl_flag (f_Mdl_flag T 128 0) 2 1) := by
          unfold f_Mdl_result
          rw [if_neg (by decide : ¬ (1 : Int32) = 0), e3, if_pos a]
          show (if (v &&& (255 : Int32)) = (0 : Int32) then _ else _) = _
          rw [if_pos b]; rfl
        rw [A, B]; exact ⟨rfl, sh_01 h⟩
      · have A : f_Reg_showResult S (v &&& 255) 0 = pr S 8 (((S.1 8 &&& (-131 : Int32)) ||| (0 : Int32)) ||| (0 : Int32)) := by
          unfold f_Reg_showResult
          rw [e2, if_pos a, if_neg b]
        have B : f_Mdl_result T v 1 = (v &&& 255, f_Mdl_flag (f_Mdl_flag T 128 0) 2 0) := by
          unfold f_Mdl_result
          rw [if_neg (by decide : ¬ (1 : Int32) = 0), e3, if_pos a]
          show (if (v &&& (255 : Int32)) = (0 : Int32) then _ else _) = _
          rw [if_neg b]; rfl
        rw [A, B]; exact ⟨rfl, sh_00 h⟩
    · by_cases b : (v &&& (255 : Int32)) = (0 : Int32)
      · have A : f_Reg_showResult S (v &&& 255) 0 = pr S 8 (((S.1 8 &&& (-131 : Int32)) ||| (128 : Int32)) ||| (2 : Int32)) := by
          unfold f_Reg_showResult
          rw [e2, if_neg a, if_pos b]
        have B : f_Mdl_result T v 1 = (v &&& 255, f_Mdl_flag (f_Mdl_flag T 128 1) 2 1) := by
          unfold f_Mdl_result
          rw [if_neg (by decide : ¬ (1 : Int32) = 0), e3, if_neg a]
          show (if (v &&& (255 : Int32)) = (0 : Int32) then _ else _) = _
          rw [if_pos b]; rfl
        rw [A, B]; exact ⟨rfl, sh_11 h⟩
      · have A : f_Reg_showResult S (v &&& 255) 0 = pr S 8 (((S.1 8 &&& (-131 : Int32)) ||| (128 : Int32)) ||| (0 : Int32)) := by
          unfold f_Reg_showResult
          rw [e2, if_neg a, if_neg b]
        have B : f_Mdl_result T v 1 = (v &&& 255, f_Mdl_flag (f_Mdl_flag T 128 1) 2 0) := by
          unfold f_Mdl_result
          rw [if_neg (by decide : ¬ (1 : Int32) = 0), e3, if_neg a]
          show (if (v &&& (255 : Int32)) = (0 : Int32) then _ else _) = _
          rw [if_neg b]; rfl
        rw [A, B]; exact ⟨rfl, sh_10 h⟩
theorem sh_comm {S : Sc} {j : Nat} (hj : j ≠ 8) (x v w : Int32) : f_Reg_showResult (pr S j x) v w = pr (f_Reg_showResult S v w) j x := by
  have e : (pr S j x).1 8 = S.1 8 := pk_un (Ne.symm hj)
  unfold f_Reg_showResult
  rw [e]
  split
  · split
    · exact pr_comm S hj _ _
    · exact pr_comm S hj _ _
  · split
    · exact pr_comm S hj _ _
    · exact pr_comm S hj _ _
theorem sh_bit {S : Sc} (v w : Int32) : ((f_Reg_showResult S v w).1 8) &&& 32 = S.1 8 &&& 32 ∧ ((f_Reg_showResult S v w).1 8) &&& 16 = S.1 8 &&& 16 := by
  have key : ∀ s z : Int32, s &&& 32 = 0 → z &&& 32 = 0 → s &&& 16 = 0 → z &&& 16 = 0 → (((S.1 8 &&& (-131 : Int32)) ||| s) ||| z) &&& 32 = S.1 8 &&& 32 ∧ (((S.1 8 &&& (-131 : Int32)) ||| s) ||| z) &&& 16 = S.1 8 &&& 16 := by
    intro s z h1 h2 h3 h4
    constructor
    · rw [and_or_r, and_or_r, h1, h2, Int32.and_assoc, Int32.or_zero, Int32.or_zero]; rfl
    · rw [and_or_r, and_or_r, h3, h4, Int32.and_assoc, Int32.or_zero, Int32.or_zero]; rfl
  unfold f_Reg_showResult
  split
  · split
    · exact key 0 2 (by decide) (by decide) (by decide) (by decide)
    · exact key 0 0 (by decide) (by decide) (by decide) (by decide)
  · split
    · exact key 128 2 (by decide) (by decide) (by decide) (by decide)
    · exact key 128 0 (by decide) (by decide) (by decide) (by decide)
theorem mask_16 {w n : Int32} (hw : WN w n) (v : Int32) : r16 (v &&& f_Reg_maskOf w) := by
  rcases hw with ⟨rfl, rfl⟩ | ⟨rfl, rfl⟩
  · exact m16 v
  · exact r8_16 (m8 v)
theorem s_loadX {S T : Sc} {v n : Int32} (h : RR S T) (hw : WN (f_Reg_wideIndex S) n) : RR (f_Reg_loadX S v) (pr (f_Mdl_result T v n).2 1 (f_Mdl_result T v n).1) := by
  have k := s_show (v := v) h hw
  show RR (f_Reg_showResult (pr S 1 (v &&& f_Reg_maskOf (f_Reg_wideIndex S))) (v &&& f_Reg_maskOf (f_Reg_wideIndex S)) (f_Reg_wideIndex S)) _
  rw [sh_comm (by decide)]
  exact R_1 k.2 k.1.symm (mask_16 hw v)
theorem s_loadY {S T : Sc} {v n : Int32} (h : RR S T) (hw : WN (f_Reg_wideIndex S) n) : RR (f_Reg_loadY S v) (pr (f_Mdl_result T v n).2 2 (f_Mdl_result T v n).1) := by
  have k := s_show (v := v) h hw
  show RR (f_Reg_showResult (pr S 2 (v &&& f_Reg_maskOf (f_Reg_wideIndex S))) (v &&& f_Reg_maskOf (f_Reg_wideIndex S)) (f_Reg_wideIndex S)) _
  rw [sh_comm (by decide)]
  exact R_2 k.2 k.1.symm (mask_16 hw v)
theorem WN_1 : WN 1 0 := Or.inl ⟨rfl, rfl⟩
theorem WN_0 : WN 0 1 := Or.inr ⟨rfl, rfl⟩
theorem s_loadC {S T : Sc} {v : Int32} (h : RR S T) (g : r16 v) : RR (f_Reg_loadC S v) (pr (f_Mdl_result T v 0).2 0 (f_Mdl_result T v 0).1) := by
  have k := s_show (v := v) h WN_1
  have e : v &&& f_Reg_maskOf 1 = v := g
  rw [e] at k
  show RR (f_Reg_showResult (pr S 0 v) v 1) _
  rw [sh_comm (by decide)]
  exact R_0 k.2 k.1.symm g
theorem s_loadD {S T : Sc} {v : Int32} (h : RR S T) (g : r16 v) : RR (f_Reg_loadD S v) (pr (f_Mdl_result T v 0).2 4 (f_Mdl_result T v 0).1) := by
  have k := s_show (v := v) h WN_1
  have e : v &&& f_Reg_maskOf 1 = v := g
  rw [e] at k
  show RR (f_Reg_showResult (pr S 4 v) v 1) _
  rw [sh_comm (by decide)]
  exact R_4 k.2 k.1.symm g
theorem s_loadB {S T : Sc} {v : Int32} (h : RR S T) (g : r8 v) : RR (f_Reg_loadDataBank S v) (pr (f_Mdl_result T v 1).2 5 (f_Mdl_result T v 1).1) := by
  have k := s_show (v := v) h WN_0
  have e : v &&& f_Reg_maskOf 0 = v := g
  rw [e] at k
  show RR (f_Reg_showResult (pr S 5 v) v 0) _
  rw [sh_comm (by decide)]
  exact R_5 k.2 k.1.symm g
theorem is_p {T : Sc} {S : Sc} (e : S.1 8 = T.1 6) {n f : Int32} (hw : WN (if ((S.1 8) &&& f) = (0 : Int32) then (1 : Int32) else (0 : Int32)) n) : f_Mdl_is T f = n := by
  have k := WN_p e f
  rcases hw with ⟨a, b⟩ | ⟨a, b⟩
  · rcases k with ⟨c, d⟩ | ⟨c, d⟩
    · rw [d, b]
    · rw [a] at c; exact absurd c (by decide)
  · rcases k with ⟨c, d⟩ | ⟨c, d⟩
    · rw [a] at c; exact absurd c (by decide)
    · rw [d, b]
theorem s_setA {S T : Sc} {v n : Int32} (h : RR S T) (hw : WN (f_Reg_wideA S) n) : RR (f_Reg_loadA S v) (f_Mdl_setAccumulator (f_Mdl_result T v n).2 (f_Mdl_result T v n).1) := by
  have k := s_show (v := v) h hw
  have g0 := RRr_0 h
  have ei : f_Mdl_is (f_Mdl_result T v n).2 32 = n := by
    refine is_p (S := f_Reg_showResult S (v &&& f_Reg_maskOf (f_Reg_wideA S)) (f_Reg_wideA S)) (RRe_8 k.2) ?_
    rw [(sh_bit _ _).1]
    exact hw
  have e0 : S.1 0 = (f_Mdl_result T v n).2.1 0 := by
    have := RRe_0 k.2
    rw [← this]
    unfold f_Reg_showResult
    split
    · split <;> rfl
    · split <;> rfl
  show RR (f_Reg_showResult (pr S 0 ((S.1 0 &&& (f_Reg_maskOf (f_Reg_wideA S) ^^^ (-1 : Int32))) ||| (v &&& f_Reg_maskOf (f_Reg_wideA S)))) (v &&& f_Reg_maskOf (f_Reg_wideA S)) (f_Reg_wideA S)) _
  rw [sh_comm (by decide)]
  unfold f_Mdl_setAccumulator
  rw [ei]
  generalize hT : (f_Mdl_result T v n).2 = T2 at k ei e0 ⊢
  rw [k.1]
  have k2 := k.2
  generalize f_Reg_showResult S (v &&& f_Reg_maskOf (f_Reg_wideA S)) (f_Reg_wideA S) = S2 at k2 ⊢
  generalize f_Reg_wideA S = w at hw ⊢
  rcases hw with ⟨rfl, rfl⟩ | ⟨rfl, rfl⟩
  · rw [if_pos (rfl : (0 : Int32) = 0)]
    show RR (pr S2 0 ((S.1 0 &&& ((65535 : Int32) ^^^ (-1 : Int32))) ||| (v &&& 65535))) (pr T2 0 ((v &&& 65535) &&& 65535))
    have e : (S.1 0 &&& ((65535 : Int32) ^^^ (-1 : Int32))) ||| (v &&& 65535) = (v &&& 65535) &&& 65535 := by
      rw [m16 v, ← g0, Int32.and_assoc]
      show (S.1 0 &&& 0) ||| _ = _
      rw [Int32.and_zero, Int32.zero_or]
    exact R_0 k2 e (by rw [e, m16 v]; exact m16 v)
  · rw [if_neg (by decide : ¬ (1 : Int32) = 0)]
    show RR (pr S2 0 ((S.1 0 &&& ((255 : Int32) ^^^ (-1 : Int32))) ||| (v &&& 255))) (pr T2 0 ((T2.1 0 &&& 65280) ||| ((v &&& 255) &&& 255)))
    have e : S.1 0 &&& ((255 : Int32) ^^^ (-1 : Int32)) = S.1 0 &&& 65280 := by
      rw [← g0, Int32.and_assoc, Int32.and_assoc]; rfl
    refine R_0 k2 (by rw [m8 v, e, e0]) (r16_or (r16_and g0 _) (r8_16 (m8 v)))
theorem fk_000 : ∀ k, k < 256 → ((((nI k &&& ((1 : Int32) ^^^ (-1 : Int32))) &&& (-131 : Int32)) ||| (0 : Int32)) ||| (0 : Int32)) = ((((nI k &&& (-131 : Int32)) ||| (0 : Int32)) ||| (0 : Int32)) &&& ((1 : Int32) ^^^ (-1 : Int32))) := by decide +kernel
theorem fk_001 : ∀ k, k < 256 → ((((nI k &&& ((1 : Int32) ^^^ (-1 : Int32))) &&& (-131 : Int32)) ||| (0 : Int32)) ||| (2 : Int32)) = ((((nI k &&& (-131 : Int32)) ||| (0 : Int32)) ||| (2 : Int32)) &&& ((1 : Int32) ^^^ (-1 : Int32))) := by decide +kernel
theorem fk_010 : ∀ k, k < 256 → ((((nI k &&& ((1 : Int32) ^^^ (-1 : Int32))) &&& (-131 : Int32)) ||| (128 : Int32)) ||| (0 : Int32)) = ((((nI k &&& (-131 : Int32)) ||| (128 : Int32)) ||| (0 : Int32)) &&& ((1 : Int32) ^^^ (-1 : Int32))) := by decide +kernel
theorem fk_011 : ∀ k, k < 256 → ((((nI k &&& ((1 : Int32) ^^^ (-1 : Int32))) &&& (-131 : Int32)) ||| (128 : Int32)) ||| (2 : Int32)) = ((((nI k &&& (-131 : Int32)) ||| (128 : Int32)) ||| (2 : Int32)) &&& ((1 : Int32) ^^^ (-1 : Int32))) := by decide +kernel
theorem fk_100 : ∀ k, k < 256 → ((((nI k ||| (1 : Int32)) &&& (-131 : Int32)) ||| (0 : Int32)) ||| (0 : Int32)) = ((((nI k &&& (-131 : Int32)) ||| (0 : Int32)) ||| (0 : Int32)) ||| (1 : Int32)) := by decide +kernel
theorem fk_101 : ∀ k, k < 256 → ((((nI k ||| (1 : Int32)) &&& (-131 : Int32)) ||| (0 : Int32)) ||| (2 : Int32)) = ((((nI k &&& (-131 : Int32)) ||| (0 : Int32)) ||| (2 : Int32)) ||| (1 : Int32)) := by decide +kernel
theorem fk_110 : ∀ k, k < 256 → ((((nI k ||| (1 : Int32)) &&& (-131 : Int32)) ||| (128 : Int32)) ||| (0 : Int32)) = ((((nI k &&& (-131 : Int32)) ||| (128 : Int32)) ||| (0 : Int32)) ||| (1 : Int32)) := by decide +kernel
theorem fk_111 : ∀ k, k < 256 → ((((nI k ||| (1 : Int32)) &&& (-131 : Int32)) ||| (128 : Int32)) ||| (2 : Int32)) = ((((nI k &&& (-131 : Int32)) ||| (128 : Int32)) ||| (2 : Int32)) ||| (1 : Int32)) := by decide +kernel
theorem sh_flag {S : Sc} (g : r8 (S.1 8)) (b v w : Int32) : f_Reg_showResult (f_Reg_putFlag S 1 b) v w = f_Reg_putFlag (f_Reg_showResult S v w) 1 b := by
  obtain ⟨k, hk, ep⟩ := r8_nI g
  unfold f_Reg_showResult f_Reg_putFlag
  by_cases z : b = 0
  · rw [if_pos z]
    by_cases a : (v &&& f_Reg_signOf w) = (0 : Int32)
    · by_cases q : v = (0 : Int32)
      · rw [if_pos a, if_pos q, if_pos a, if_pos q, if_pos z]
        show pr (pr S 8 _) 8 _ = pr (pr S 8 _) 8 _
        rw [pr_pr, pr_pr]; show pr S 8 ((((S.1 8 &&& _) &&& _) ||| _) ||| _) = pr S 8 ((((S.1 8 &&& _) ||| _) ||| _) &&& _); rw [ep, fk_001 k hk]
      · rw [if_pos a, if_neg q, if_pos a, if_neg q, if_pos z]
        show pr (pr S 8 _) 8 _ = pr (pr S 8 _) 8 _
        rw [pr_pr, pr_pr]; show pr S 8 ((((S.1 8 &&& _) &&& _) ||| _) ||| _) = pr S 8 ((((S.1 8 &&& _) ||| _) ||| _) &&& _); rw [ep, fk_000 k hk]
    · by_cases q : v = (0 : Int32)
      · rw [if_neg a, if_pos q, if_neg a, if_pos q, if_pos z]
        show pr (pr S 8 _) 8 _ = pr (pr S 8 _) 8 _
        rw [pr_pr, pr_pr]; show pr S 8 ((((S.1 8 &&& _) &&& _) ||| _) ||| _) = pr S 8 ((((S.1 8 &&& _) ||| _) ||| _) &&& _); rw [ep, fk_011 k hk]
      · rw [if_neg a, if_neg q, if_neg a, if_neg q, if_pos z]
        show pr (pr S 8 _) 8 _ = pr (pr S 8 _) 8 _
        rw [pr_pr, pr_pr]; show pr S 8 ((((S.1 8 &&& _) &&& _) ||| _) ||| _) = pr S 8 ((((S.1 8 &&& _) ||| _) ||| _) &&& _); rw [ep, fk_010 k hk]
  · rw [if_neg z]
    by_cases a : (v &&& f_Reg_signOf w) = (0 : Int32)
    · by_cases q : v = (0 : Int32)
      · rw [if_pos a, if_pos q, if_pos a, if_pos q, if_neg z]
        show pr (pr S 8 _) 8 _ = pr (pr S 8 _) 8 _
        rw [pr_pr, pr_pr]; show pr S 8 ((((S.1 8 ||| _) &&& _) ||| _) ||| _) = pr S 8 ((((S.1 8 &&& _) ||| _) ||| _) ||| _); rw [ep, fk_101 k hk]
      · rw [if_pos a, if_neg q, if_pos a, if_neg q, if_neg z]
        show pr (pr S 8 _) 8 _ = pr (pr S 8 _) 8 _
        rw [pr_pr, pr_pr]; show pr S 8 ((((S.1 8 ||| _) &&& _) ||| _) ||| _) = pr S 8 ((((S.1 8 &&& _) ||| _) ||| _) ||| _); rw [ep, fk_100 k hk]
    · by_cases q : v = (0 : Int32)
      · rw [if_neg a, if_pos q, if_neg a, if_pos q, if_neg z]
        show pr (pr S 8 _) 8 _ = pr (pr S 8 _) 8 _
        rw [pr_pr, pr_pr]; show pr S 8 ((((S.1 8 ||| _) &&& _) ||| _) ||| _) = pr S 8 ((((S.1 8 &&& _) ||| _) ||| _) ||| _); rw [ep, fk_111 k hk]
      · rw [if_neg a, if_neg q, if_neg a, if_neg q, if_neg z]
        show pr (pr S 8 _) 8 _ = pr (pr S 8 _) 8 _
        rw [pr_pr, pr_pr]; show pr S 8 ((((S.1 8 ||| _) &&& _) ||| _) ||| _) = pr S 8 ((((S.1 8 &&& _) ||| _) ||| _) ||| _); rw [ep, fk_110 k hk]
theorem s_cmp {S T : Sc} {x v w n : Int32} (h : RR S T) (hw : WN w n) : RR (f_Prc_compare S x v w) (f_Mdl_compare T x v n) := by
  have k := s_show (v := x - v) h hw
  unfold f_Prc_compare f_Mdl_compare
  by_cases z : x < v
  · rw [if_pos z]
    show RR (f_Reg_showResult (f_Reg_putFlag S 1 0) ((x - v) &&& f_Reg_maskOf w) w) (if x < v then _ else _)
    rw [if_pos z, sh_flag (RRr_8 h)]
    exact s_flag k.2 1 0 (by decide)
  · rw [if_neg z]
    show RR (f_Reg_showResult (f_Reg_putFlag S 1 1) ((x - v) &&& f_Reg_maskOf w) w) (if x < v then _ else _)
    rw [if_neg z, sh_flag (RRr_8 h)]
    exact s_flag k.2 1 1 (by decide)
end
section
theorem s_dir {S T : Sc} {x x2 : Int32} (h : RR S T) (e : x = x2) : RR (f_Opd_direct S x).2 (f_Mdl_direct T x2) ∧ PR (f_Opd_direct S x).1 ((f_Mdl_direct T x2).1 14) ((f_Mdl_direct T x2).1 15) := by
  subst e
  obtain ⟨a1, a2, a3⟩ := s_next h
  refine ⟨R_15 (R_14 a3), ?_⟩
  show PR (f_Bus_bank0Place ((S.1 4 + (f_Opd_nextByte S).1) + x)) (((T.1 4 + (f_Mdl_next T).1) + x) &&& 65535) 1
  rw [← a1, ← RRe_4 h]
  exact PR_b0 _
theorem R_far {S T : Sc} {x : Int32} (h : RR S T) : RR S (f_Mdl_far T x) := R_15 (R_14 h)
theorem PR_bank {S : Sc} {r r2 i i2 d : Int32} (e1 : S.1 5 = d) (e2 : r = r2) (e3 : i = i2) : PR (f_Opd_inDataBank S r i) ((((d <<< ((16 : Int32) &&& 31)) + r2) + i2) &&& 16777215) 0 := by
  subst e1; subst e2; subst e3
  exact Or.inl ⟨rfl, rfl, m24 _⟩
theorem PR_bank0 {S : Sc} {r r2 d : Int32} (e1 : S.1 5 = d) (e2 : r = r2) : PR (f_Opd_inDataBank S r 0) (((d <<< ((16 : Int32) &&& 31)) + r2) &&& 16777215) 0 := by
  subst e1; subst e2
  refine Or.inl ⟨rfl, ?_, m24 _⟩
  show (((S.1 5 <<< ((16 : Int32) &&& 31)) + r) + 0) &&& 16777215 = _
  rw [Int32.add_zero]
theorem PR_long {x y z : Int32} (e : x = y) (e2 : z = y &&& 16777215) (g : r24 y) : PR x z 0 := by
  subst e
  refine Or.inl ⟨rfl, ?_, ?_⟩
  · rw [e2]; exact g.symm
  · rw [e2]; exact m24 x
theorem PR_lp {x y z : Int32} (e : x = y) (e2 : z = y &&& 16777215) : PR (f_Bus_longPlace x) z 0 := by
  subst e; subst e2
  exact Or.inl ⟨rfl, rfl, m24 _⟩
theorem mrw_5 (T : Sc) (q n : Int32) : (f_Mdl_readWord T q n).2.1 5 = T.1 5 := rfl
theorem mrw_14 (T : Sc) (q n : Int32) : (f_Mdl_readWord T q n).2.1 14 = T.1 14 := rfl
theorem mnw_5 (T : Sc) : (f_Mdl_nextWord T).2.1 5 = T.1 5 := rfl
theorem crw_8 (S : Sc) (c : Int32) : (f_Bus_readWord S c).2.1 8 = S.1 8 := rfl
theorem crl_8 (S : Sc) (c : Int32) : (f_Bus_readLong S c).2.1 8 = S.1 8 := rfl
theorem cdi_8 (S : Sc) (c : Int32) : (f_Opd_direct S c).2.1 8 = S.1 8 := rfl
theorem cst_8 (S : Sc) : (f_Opd_onStack S).2.1 8 = S.1 8 := rfl
theorem cnw_8 (S : Sc) : (f_Opd_nextWord S).2.1 8 = S.1 8 := rfl
theorem cnl_8 (S : Sc) : (f_Opd_nextLong S).2.1 8 = S.1 8 := rfl
theorem far_14 (T : Sc) (x : Int32) : (f_Mdl_far T x).1 14 = x &&& 16777215 := rfl
theorem far_15 (T : Sc) (x : Int32) : (f_Mdl_far T x).1 15 = 0 := rfl
def SP (S T : Sc) (m : Int32) : Prop := (f_Mdl_find T m).1 = 1 ∧ RR (f_Opd_place S m).2 (f_Mdl_find T m).2 ∧ PR (f_Opd_place S m).1 ((f_Mdl_find T m).2.1 14) ((f_Mdl_find T m).2.1 15) ∧ (f_Opd_place S m).2.1 8 = S.1 8
theorem s_stk {S T : Sc} (h : RR S T) : (f_Opd_nextByte S).1 = (f_Mdl_next T).1 ∧ RR (f_Opd_onStack S).2 (f_Mdl_next T).2 ∧ PR (f_Opd_onStack S).1 ((T.1 3 + (f_Mdl_next T).1) &&& 65535) 1 := by
  obtain ⟨a1, a2, a3⟩ := s_next h
  refine ⟨a1, a3, ?_⟩
  show PR (f_Bus_bank0Place (S.1 3 + (f_Opd_nextByte S).1)) ((T.1 3 + (f_Mdl_next T).1) &&& 65535) 1
  rw [← a1, ← RRe_3 h]
  exact PR_b0 _
theorem s_rl {S T : Sc} {c q : Int32} (h : RR S T) (hp : PR c q 1) : (f_Bus_readLong S c).1 = (f_Mdl_readWord T q 1).1 ||| ((f_Mdl_read (f_Mdl_readWord T q 1).2 ((q + 2) &&& 65535)).1 <<< ((16 : Int32) &&& 31)) ∧ r16 (f_Mdl_readWord T q 1).1 ∧ r24 (f_Bus_readLong S c).1 ∧ RR (f_Bus_readLong S c).2 (f_Mdl_read (f_Mdl_readWord T q 1).2 ((q + 2) &&& 65535)).2 := by
  obtain ⟨a1, a2, a3⟩ := s_rw h hp
  have hp2 := PR_after (PR_after hp)
  have hq : r16 q := by
    rcases hp with ⟨z, -⟩ | ⟨-, -, g⟩
    · exact absurd z (by decide)
    · exact g
  have af : ∀ z : Int32, r16 z → f_Mdl_after z 1 = (z + 1) &&& 65535 := by
    intro z g
    show (z &&& (16711680 : Int32)) ||| ((z + 1) &&& 65535) = _
    rw [← g, Int32.and_assoc]
    show (z &&& 0) ||| _ = _
    rw [Int32.and_zero, Int32.zero_or]
  have e : f_Mdl_after (f_Mdl_after q 1) 1 = (q + 2) &&& 65535 := by
    rw [af q hq, af _ (m16 _)]
    obtain ⟨n, hn, rfl⟩ := r16_nI hq
    rw [nI_1, nx_mod, nI_1, nx_mod, show (2 : Int32) = nI 2 from rfl, nI_add, nx_mod]
    congr 1
    omega
  obtain ⟨b1, b2, b3⟩ := s_read a3 (PR_cell hp2)
  rw [e] at b1 b3
  refine ⟨?_, by rw [← a1]; exact a2, w24 a2 b2, b3⟩
  show (f_Bus_readWord S c).1 ||| (f_Bus_readByte (f_Bus_readWord S c).2 (f_Bus_placeAfter (f_Bus_placeAfter c))).1 <<< ((16 : Int32) &&& 31) = _
  rw [a1, b1]
end
section
theorem pl_5 (S : Sc) : f_Opd_place S (5 : Int32) = ((f_Opd_direct S (0 : Int32)).1, (f_Opd_direct S (0 : Int32)).2) := rfl
theorem fd_5 (T : Sc) : f_Mdl_find T (5 : Int32) = ((1 : Int32), (f_Mdl_direct T (0 : Int32))) := rfl
theorem pl_21 (S : Sc) : f_Opd_place S (21 : Int32) = ((f_Opd_direct S (S.1 1)).1, (f_Opd_direct S (S.1 1)).2) := rfl
theorem fd_21 (T : Sc) : f_Mdl_find T (21 : Int32) = ((1 : Int32), (f_Mdl_direct T (T.1 1))) := rfl
theorem pl_3 (S : Sc) : f_Opd_place S (3 : Int32) = ((f_Opd_onStack S).1, (f_Opd_onStack S).2) := rfl
theorem fd_3 (T : Sc) : f_Mdl_find T (3 : Int32) = ((1 : Int32), (pr (pr (f_Mdl_next T).2 14 ((((T.1 3) + (f_Mdl_next T).1) &&& (65535 : Int32)))) 15 ((1 : Int32)))) := rfl
theorem pl_13 (S : Sc) : f_Opd_place S (13 : Int32) = ((f_Opd_inDataBank (f_Opd_nextWord S).2 (f_Opd_nextWord S).1 (0 : Int32)), (f_Opd_nextWord S).2) := rfl
theorem fd_13 (T : Sc) : f_Mdl_find T (13 : Int32) = ((1 : Int32), (f_Mdl_far (f_Mdl_nextWord T).2 ((((T.1 5) <<< ((16 : Int32) &&& 31)) + (f_Mdl_nextWord T).1) + (0 : Int32)))) := rfl
theorem pl_25 (S : Sc) : f_Opd_place S (25 : Int32) = ((f_Opd_inDataBank (f_Opd_nextWord S).2 (f_Opd_nextWord S).1 ((f_Opd_nextWord S).2.1 2)), (f_Opd_nextWord S).2) := rfl
theorem fd_25 (T : Sc) : f_Mdl_find T (25 : Int32) = ((1 : Int32), (f_Mdl_far (f_Mdl_nextWord T).2 ((((T.1 5) <<< ((16 : Int32) &&& 31)) + (f_Mdl_nextWord T).1) + ((f_Mdl_nextWord T).2.1 2)))) := rfl
theorem pl_29 (S : Sc) : f_Opd_place S (29 : Int32) = ((f_Opd_inDataBank (f_Opd_nextWord S).2 (f_Opd_nextWord S).1 ((f_Opd_nextWord S).2.1 1)), (f_Opd_nextWord S).2) := rfl
theorem fd_29 (T : Sc) : f_Mdl_find T (29 : Int32) = ((1 : Int32), (f_Mdl_far (f_Mdl_nextWord T).2 ((((T.1 5) <<< ((16 : Int32) &&& 31)) + (f_Mdl_nextWord T).1) + ((f_Mdl_nextWord T).2.1 1)))) := rfl
theorem pl_15 (S : Sc) : f_Opd_place S (15 : Int32) = ((f_Opd_nextLong S).1, (f_Opd_nextLong S).2) := rfl
theorem fd_15 (T : Sc) : f_Mdl_find T (15 : Int32) = ((1 : Int32), (f_Mdl_far (f_Mdl_nextLong T).2 ((f_Mdl_nextLong T).1 + (0 : Int32)))) := rfl
theorem pl_31 (S : Sc) : f_Opd_place S (31 : Int32) = ((f_Bus_longPlace ((f_Opd_nextLong S).1 + ((f_Opd_nextLong S).2.1 1))), (f_Opd_nextLong S).2) := rfl
theorem fd_31 (T : Sc) : f_Mdl_find T (31 : Int32) = ((1 : Int32), (f_Mdl_far (f_Mdl_nextLong T).2 ((f_Mdl_nextLong T).1 + ((f_Mdl_nextLong T).2.1 1)))) := rfl
theorem pl_1 (S : Sc) : f_Opd_place S (1 : Int32) = ((f_Opd_inDataBank (f_Bus_readWord (f_Opd_direct S (S.1 1)).2 (f_Opd_direct S (S.1 1)).1).2 (f_Bus_readWord (f_Opd_direct S (S.1 1)).2 (f_Opd_direct S (S.1 1)).1).1 (0 : Int32)), (f_Bus_readWord (f_Opd_direct S (S.1 1)).2 (f_Opd_direct S (S.1 1)).1).2) := rfl
theorem fd_1 (T : Sc) : f_Mdl_find T (1 : Int32) = ((1 : Int32), (f_Mdl_far (f_Mdl_readWord (f_Mdl_direct T (T.1 1)) ((f_Mdl_direct T (T.1 1)).1 14) (1 : Int32)).2 (((((f_Mdl_direct T (T.1 1)).1 5) <<< ((16 : Int32) &&& 31)) + (f_Mdl_readWord (f_Mdl_direct T (T.1 1)) ((f_Mdl_direct T (T.1 1)).1 14) (1 : Int32)).1) + (0 : Int32)))) := rfl
theorem pl_17 (S : Sc) : f_Opd_place S (17 : Int32) = ((f_Opd_inDataBank (f_Bus_readWord (f_Opd_direct S (0 : Int32)).2 (f_Opd_direct S (0 : Int32)).1).2 (f_Bus_readWord (f_Opd_direct S (0 : Int32)).2 (f_Opd_direct S (0 : Int32)).1).1 ((f_Bus_readWord (f_Opd_direct S (0 : Int32)).2 (f_Opd_direct S (0 : Int32)).1).2.1 2)), (f_Bus_readWord (f_Opd_direct S (0 : Int32)).2 (f_Opd_direct S (0 : Int32)).1).2) := rfl
theorem fd_17 (T : Sc) : f_Mdl_find T (17 : Int32) = ((1 : Int32), (f_Mdl_far (f_Mdl_readWord (f_Mdl_direct T (0 : Int32)) ((f_Mdl_direct T (0 : Int32)).1 14) (1 : Int32)).2 (((((f_Mdl_direct T (0 : Int32)).1 5) <<< ((16 : Int32) &&& 31)) + (f_Mdl_readWord (f_Mdl_direct T (0 : Int32)) ((f_Mdl_direct T (0 : Int32)).1 14) (1 : Int32)).1) + ((f_Mdl_readWord (f_Mdl_direct T (0 : Int32)) ((f_Mdl_direct T (0 : Int32)).1 14) (1 : Int32)).2.1 2)))) := rfl
theorem pl_18 (S : Sc) : f_Opd_place S (18 : Int32) = ((f_Opd_inDataBank (f_Bus_readWord (f_Opd_direct S (0 : Int32)).2 (f_Opd_direct S (0 : Int32)).1).2 (f_Bus_readWord (f_Opd_direct S (0 : Int32)).2 (f_Opd_direct S (0 : Int32)).1).1 (0 : Int32)), (f_Bus_readWord (f_Opd_direct S (0 : Int32)).2 (f_Opd_direct S (0 : Int32)).1).2) := rfl
theorem fd_18 (T : Sc) : f_Mdl_find T (18 : Int32) = ((1 : Int32), (f_Mdl_far (f_Mdl_readWord (f_Mdl_direct T (0 : Int32)) ((f_Mdl_direct T (0 : Int32)).1 14) (1 : Int32)).2 (((((f_Mdl_direct T (0 : Int32)).1 5) <<< ((16 : Int32) &&& 31)) + (f_Mdl_readWord (f_Mdl_direct T (0 : Int32)) ((f_Mdl_direct T (0 : Int32)).1 14) (1 : Int32)).1) + (0 : Int32)))) := rfl
theorem pl_7 (S : Sc) : f_Opd_place S (7 : Int32) = ((f_Bus_readLong (f_Opd_direct S (0 : Int32)).2 (f_Opd_direct S (0 : Int32)).1).1, (f_Bus_readLong (f_Opd_direct S (0 : Int32)).2 (f_Opd_direct S (0 : Int32)).1).2) := rfl
theorem fd_7 (T : Sc) : f_Mdl_find T (7 : Int32) = ((1 : Int32), (f_Mdl_far (f_Mdl_read (f_Mdl_readWord (f_Mdl_direct T (0 : Int32)) ((f_Mdl_direct T (0 : Int32)).1 14) (1 : Int32)).2 ((((f_Mdl_readWord (f_Mdl_direct T (0 : Int32)) ((f_Mdl_direct T (0 : Int32)).1 14) (1 : Int32)).2.1 14) + (2 : Int32)) &&& (65535 : Int32))).2 ((((f_Mdl_read (f_Mdl_readWord (f_Mdl_direct T (0 : Int32)) ((f_Mdl_direct T (0 : Int32)).1 14) (1 : Int32)).2 ((((f_Mdl_readWord (f_Mdl_direct T (0 : Int32)) ((f_Mdl_direct T (0 : Int32)).1 14) (1 : Int32)).2.1 14) + (2 : Int32)) &&& (65535 : Int32))).1 <<< ((16 : Int32) &&& 31)) + (f_Mdl_readWord (f_Mdl_direct T (0 : Int32)) ((f_Mdl_direct T (0 : Int32)).1 14) (1 : Int32)).1) + (0 : Int32)))) := rfl
theorem pl_23 (S : Sc) : f_Opd_place S (23 : Int32) = ((f_Bus_longPlace ((f_Bus_readLong (f_Opd_direct S (0 : Int32)).2 (f_Opd_direct S (0 : Int32)).1).1 + ((f_Bus_readLong (f_Opd_direct S (0 : Int32)).2 (f_Opd_direct S (0 : Int32)).1).2.1 2))), (f_Bus_readLong (f_Opd_direct S (0 : Int32)).2 (f_Opd_direct S (0 : Int32)).1).2) := rfl
theorem fd_23 (T : Sc) : f_Mdl_find T (23 : Int32) = ((1 : Int32), (f_Mdl_far (f_Mdl_read (f_Mdl_readWord (f_Mdl_direct T (0 : Int32)) ((f_Mdl_direct T (0 : Int32)).1 14) (1 : Int32)).2 ((((f_Mdl_readWord (f_Mdl_direct T (0 : Int32)) ((f_Mdl_direct T (0 : Int32)).1 14) (1 : Int32)).2.1 14) + (2 : Int32)) &&& (65535 : Int32))).2 ((((f_Mdl_read (f_Mdl_readWord (f_Mdl_direct T (0 : Int32)) ((f_Mdl_direct T (0 : Int32)).1 14) (1 : Int32)).2 ((((f_Mdl_readWord (f_Mdl_direct T (0 : Int32)) ((f_Mdl_direct T (0 : Int32)).1 14) (1 : Int32)).2.1 14) + (2 : Int32)) &&& (65535 : Int32))).1 <<< ((16 : Int32) &&& 31)) + (f_Mdl_readWord (f_Mdl_direct T (0 : Int32)) ((f_Mdl_direct T (0 : Int32)).1 14) (1 : Int32)).1) + ((f_Mdl_read (f_Mdl_readWord (f_Mdl_direct T (0 : Int32)) ((f_Mdl_direct T (0 : Int32)).1 14) (1 : Int32)).2 ((((f_Mdl_readWord (f_Mdl_direct T (0 : Int32)) ((f_Mdl_direct T (0 : Int32)).1 14) (1 : Int32)).2.1 14) + (2 : Int32)) &&& (65535 : Int32))).2.1 2)))) := rfl
theorem pl_19 (S : Sc) : f_Opd_place S (19 : Int32) = ((f_Opd_inDataBank (f_Bus_readWord (f_Opd_onStack S).2 (f_Opd_onStack S).1).2 (f_Bus_readWord (f_Opd_onStack S).2 (f_Opd_onStack S).1).1 ((f_Bus_readWord (f_Opd_onStack S).2 (f_Opd_onStack S).1).2.1 2)), (f_Bus_readWord (f_Opd_onStack S).2 (f_Opd_onStack S).1).2) := rfl
theorem fd_19 (T : Sc) : f_Mdl_find T (19 : Int32) = ((1 : Int32), (f_Mdl_far (f_Mdl_readWord (pr (f_Mdl_next T).2 14 ((((T.1 3) + (f_Mdl_next T).1) &&& (65535 : Int32)))) (((T.1 3) + (f_Mdl_next T).1) &&& (65535 : Int32)) (1 : Int32)).2 (((((f_Mdl_next T).2.1 5) <<< ((16 : Int32) &&& 31)) + (f_Mdl_readWord (pr (f_Mdl_next T).2 14 ((((T.1 3) + (f_Mdl_next T).1) &&& (65535 : Int32)))) (((T.1 3) + (f_Mdl_next T).1) &&& (65535 : Int32)) (1 : Int32)).1) + ((f_Mdl_readWord (pr (f_Mdl_next T).2 14 ((((T.1 3) + (f_Mdl_next T).1) &&& (65535 : Int32)))) (((T.1 3) + (f_Mdl_next T).1) &&& (65535 : Int32)) (1 : Int32)).2.1 2)))) := rfl
end
section
theorem sp_5 {S T : Sc} (h : RR S T) : SP S T 5 := by
  obtain ⟨d1, d2⟩ := s_dir (x := 0) h rfl
  unfold SP
  rw [pl_5, fd_5]
  dsimp only
  exact ⟨rfl, d1, d2, rfl⟩
theorem sp_21 {S T : Sc} (h : RR S T) : SP S T 21 := by
  obtain ⟨d1, d2⟩ := s_dir h (RRe_1 h)
  unfold SP
  rw [pl_21, fd_21]
  dsimp only
  exact ⟨rfl, d1, d2, rfl⟩
theorem sp_3 {S T : Sc} (h : RR S T) : SP S T 3 := by
  obtain ⟨-, d1, d2⟩ := s_stk h
  unfold SP
  rw [pl_3, fd_3]
  dsimp only
  exact ⟨rfl, R_15 (R_14 d1), d2, rfl⟩
theorem sp_13 {S T : Sc} (h : RR S T) : SP S T 13 := by
  obtain ⟨a1, a2, a3⟩ := s_nw h
  have e5 := RRe_5 a3
  rw [mnw_5] at e5
  unfold SP
  rw [pl_13, fd_13]
  dsimp only
  exact ⟨rfl, R_far a3, PR_bank e5 a1 rfl, rfl⟩
theorem sp_25 {S T : Sc} (h : RR S T) : SP S T 25 := by
  obtain ⟨a1, a2, a3⟩ := s_nw h
  have e5 := RRe_5 a3
  rw [mnw_5] at e5
  unfold SP
  rw [pl_25, fd_25]
  dsimp only
  exact ⟨rfl, R_far a3, PR_bank e5 a1 (RRe_2 a3), rfl⟩
theorem sp_29 {S T : Sc} (h : RR S T) : SP S T 29 := by
  obtain ⟨a1, a2, a3⟩ := s_nw h
  have e5 := RRe_5 a3
  rw [mnw_5] at e5
  unfold SP
  rw [pl_29, fd_29]
  dsimp only
  exact ⟨rfl, R_far a3, PR_bank e5 a1 (RRe_1 a3), rfl⟩
theorem sp_15 {S T : Sc} (h : RR S T) : SP S T 15 := by
  obtain ⟨a1, a2, a3⟩ := s_nl h
  unfold SP
  rw [pl_15, fd_15]
  dsimp only
  refine ⟨rfl, R_far a3, PR_long a1 ?_ (by rw [← a1]; exact a2), rfl⟩
  show ((f_Mdl_nextLong T).1 + 0) &&& 16777215 = _
  rw [Int32.add_zero]
theorem sp_31 {S T : Sc} (h : RR S T) : SP S T 31 := by
  obtain ⟨a1, a2, a3⟩ := s_nl h
  unfold SP
  rw [pl_31, fd_31]
  dsimp only
  refine ⟨rfl, R_far a3, PR_lp (y := (f_Mdl_nextLong T).1 + (f_Mdl_nextLong T).2.1 1) ?_ rfl, rfl⟩
  rw [a1, RRe_1 a3]
theorem sp_1 {S T : Sc} (h : RR S T) : SP S T 1 := by
  obtain ⟨d1, d2⟩ := s_dir h (RRe_1 h)
  obtain ⟨w1, w2, w3⟩ := s_rw d1 d2
  have e5 := RRe_5 w3
  rw [mrw_5] at e5
  unfold SP
  rw [pl_1, fd_1]
  dsimp only
  exact ⟨rfl, R_far w3, PR_bank e5 w1 rfl, rfl⟩
theorem sp_17 {S T : Sc} (h : RR S T) : SP S T 17 := by
  obtain ⟨d1, d2⟩ := s_dir (x := 0) h rfl
  obtain ⟨w1, w2, w3⟩ := s_rw d1 d2
  have e5 := RRe_5 w3
  rw [mrw_5] at e5
  unfold SP
  rw [pl_17, fd_17]
  dsimp only
  exact ⟨rfl, R_far w3, PR_bank e5 w1 (RRe_2 w3), rfl⟩
theorem sp_18 {S T : Sc} (h : RR S T) : SP S T 18 := by
  obtain ⟨d1, d2⟩ := s_dir (x := 0) h rfl
  obtain ⟨w1, w2, w3⟩ := s_rw d1 d2
  have e5 := RRe_5 w3
  rw [mrw_5] at e5
  unfold SP
  rw [pl_18, fd_18]
  dsimp only
  exact ⟨rfl, R_far w3, PR_bank e5 w1 rfl, rfl⟩
theorem PR_long0 {x u v : Int32} (hx : x = v ||| (u <<< ((16 : Int32) &&& 31))) (hv : r16 v) (g : r24 x) : PR x ((((u <<< ((16 : Int32) &&& 31)) + v) + 0) &&& 16777215) 0 := by
  rw [Int32.add_zero, w24_add hv, ← hx]
  exact Or.inl ⟨rfl, g.symm, m24 x⟩
theorem sp_7 {S T : Sc} (h : RR S T) : SP S T 7 := by
  obtain ⟨d1, d2⟩ := s_dir (x := 0) h rfl
  obtain ⟨w1, w2, w3, w4⟩ := s_rl d1 d2
  unfold SP
  rw [pl_7, fd_7, mrw_14]
  exact ⟨rfl, R_far w4, PR_long0 w1 w2 w3, rfl⟩
theorem sp_23 {S T : Sc} (h : RR S T) : SP S T 23 := by
  obtain ⟨d1, d2⟩ := s_dir (x := 0) h rfl
  obtain ⟨w1, w2, w3, w4⟩ := s_rl d1 d2
  unfold SP
  rw [pl_23, fd_23]
  rw [mrw_14]
  dsimp only
  refine ⟨rfl, R_far w4, PR_lp (e := ?_) (e2 := rfl), rfl⟩
  show (f_Bus_readLong _ _).1 + (f_Bus_readLong _ _).2.1 2 = ((f_Mdl_read _ _).1 <<< ((16 : Int32) &&& 31)) + (f_Mdl_readWord _ _ _).1 + (f_Mdl_read _ _).2.1 2
  rw [w1, RRe_2 w4, w24_add w2]
theorem sp_19 {S T : Sc} (h : RR S T) : SP S T 19 := by
  obtain ⟨d0, d1, d2⟩ := s_stk h
  obtain ⟨w1, w2, w3⟩ := s_rw (R_14 (v := (T.1 3 + (f_Mdl_next T).1) &&& 65535) d1) d2
  have e5 := RRe_5 w3
  rw [mrw_5] at e5
  have e5 : _ = (f_Mdl_next T).2.1 5 := e5
  unfold SP
  rw [pl_19, fd_19]
  dsimp only
  exact ⟨rfl, R_far w3, PR_bank e5 w1 (RRe_2 w3), rfl⟩
theorem fd1_5 (T : Sc) : (f_Mdl_find T (5 : Int32)).1 = 1 := by rw [fd_5]
theorem fd1_21 (T : Sc) : (f_Mdl_find T (21 : Int32)).1 = 1 := by rw [fd_21]
theorem fd1_3 (T : Sc) : (f_Mdl_find T (3 : Int32)).1 = 1 := by rw [fd_3]
theorem fd1_13 (T : Sc) : (f_Mdl_find T (13 : Int32)).1 = 1 := by rw [fd_13]
theorem fd1_25 (T : Sc) : (f_Mdl_find T (25 : Int32)).1 = 1 := by rw [fd_25]
theorem fd1_29 (T : Sc) : (f_Mdl_find T (29 : Int32)).1 = 1 := by rw [fd_29]
theorem fd1_15 (T : Sc) : (f_Mdl_find T (15 : Int32)).1 = 1 := by rw [fd_15]
theorem fd1_31 (T : Sc) : (f_Mdl_find T (31 : Int32)).1 = 1 := by rw [fd_31]
theorem fd1_1 (T : Sc) : (f_Mdl_find T (1 : Int32)).1 = 1 := by rw [fd_1]
theorem fd1_17 (T : Sc) : (f_Mdl_find T (17 : Int32)).1 = 1 := by rw [fd_17]
theorem fd1_18 (T : Sc) : (f_Mdl_find T (18 : Int32)).1 = 1 := by rw [fd_18]
theorem fd1_7 (T : Sc) : (f_Mdl_find T (7 : Int32)).1 = 1 := by rw [fd_7]
theorem fd1_23 (T : Sc) : (f_Mdl_find T (23 : Int32)).1 = 1 := by rw [fd_23]
theorem fd1_19 (T : Sc) : (f_Mdl_find T (19 : Int32)).1 = 1 := by rw [fd_19]
end
section
theorem WN_fr {S S2 T : Sc} (h : RR S T) (e : S2.1 8 = S.1 8) : WN (f_Reg_wideA S2) (f_Mdl_is T 32) := WN_p (S := S2) (e.trans (RRe_8 h)) 32
theorem WN_fi {S S2 T : Sc} (h : RR S T) (e : S2.1 8 = S.1 8) : WN (f_Reg_wideIndex S2) (f_Mdl_is T 16) := WN_p (S := S2) (e.trans (RRe_8 h)) 16
theorem acc_eq {S T : Sc} (h : RR S T) : f_Reg_a S = f_Mdl_accumulator T := by
  show S.1 0 &&& f_Reg_maskOf (f_Reg_wideA S) = if f_Mdl_is T 32 = (0 : Int32) then T.1 0 else (T.1 0 &&& (255 : Int32))
  rcases WN_A h with ⟨a, b⟩ | ⟨a, b⟩
  · rw [a, b, if_pos (rfl : (0 : Int32) = 0)]
    show S.1 0 &&& 65535 = T.1 0
    rw [RRr_0 h, RRe_0 h]
  · rw [a, b, if_neg (by decide : ¬ (1 : Int32) = 0), RRe_0 h]
    rfl
theorem acc_255 {S T : Sc} (h : RR S T) : S.1 0 &&& 255 = f_Mdl_accumulator T &&& 255 := by
  rw [← acc_eq h]
  show S.1 0 &&& 255 = (S.1 0 &&& f_Reg_maskOf (f_Reg_wideA S)) &&& 255
  rcases WN_A h with ⟨a, b⟩ | ⟨a, b⟩
  · rw [a, Int32.and_assoc]; rfl
  · rw [a, Int32.and_assoc]; rfl
theorem acc_w {S T : Sc} (h : RR S T) {n : Int32} (hn : f_Mdl_is T 32 = n) (z : n = 0) : S.1 0 = f_Mdl_accumulator T := by
  show S.1 0 = if f_Mdl_is T 32 = (0 : Int32) then T.1 0 else (T.1 0 &&& (255 : Int32))
  rw [hn, if_pos z, RRe_0 h]
theorem has_is {S T : Sc} (h : RR S T) (f : Int32) : f_Reg_has S f = f_Mdl_is T f := by
  unfold f_Reg_has f_Mdl_is
  rw [RRe_8 h]
theorem s_setA2 {S T : Sc} {v v2 n : Int32} (h : RR S T) (hw : WN (f_Reg_wideA S) n) (e : v = v2) : RR (f_Reg_loadA S v) (f_Mdl_setAccumulator (f_Mdl_result T v2 n).2 (f_Mdl_result T v2 n).1) := by subst e; exact s_setA h hw
theorem s_loadX2 {S T : Sc} {v v2 n : Int32} (h : RR S T) (hw : WN (f_Reg_wideIndex S) n) (e : v = v2) : RR (f_Reg_loadX S v) (pr (f_Mdl_result T v2 n).2 1 (f_Mdl_result T v2 n).1) := by subst e; exact s_loadX h hw
theorem s_loadY2 {S T : Sc} {v v2 n : Int32} (h : RR S T) (hw : WN (f_Reg_wideIndex S) n) (e : v = v2) : RR (f_Reg_loadY S v) (pr (f_Mdl_result T v2 n).2 2 (f_Mdl_result T v2 n).1) := by subst e; exact s_loadY h hw
theorem s_cmp2 {S T : Sc} {x x2 v v2 w n : Int32} (h : RR S T) (hw : WN w n) (e : x = x2) (e2 : v = v2) : RR (f_Prc_compare S x v w) (f_Mdl_compare T x2 v2 n) := by subst e; subst e2; exact s_cmp h hw
theorem fr_rv {S : Sc} {c w n : Int32} (hw : WN w n) : (f_Bus_readValue S c w).2.1 8 = S.1 8 := by
  rcases hw with ⟨rfl, rfl⟩ | ⟨rfl, rfl⟩ <;> rfl
theorem fr_nv {S : Sc} {w n : Int32} (hw : WN w n) : (f_Opd_nextValue S w).2.1 8 = S.1 8 := by
  rcases hw with ⟨rfl, rfl⟩ | ⟨rfl, rfl⟩ <;> rfl
theorem rg_rv {S : Sc} {c w n : Int32} (hw : WN w n) : (f_Bus_readValue S c w).1 &&& f_Reg_maskOf w = (f_Bus_readValue S c w).1 := by
  rcases hw with ⟨rfl, rfl⟩ | ⟨rfl, rfl⟩
  · exact w16 (m8 _) (m8 _)
  · exact m8 _
theorem pf_bit (S : Sc) (b : Int32) : (f_Reg_putFlag S 1 b).1 8 &&& 32 = S.1 8 &&& 32 := by
  unfold f_Reg_putFlag
  split
  · show (S.1 8 &&& _) &&& 32 = _
    rw [Int32.and_assoc]; rfl
  · show (S.1 8 ||| 1) &&& 32 = _
    rw [and_or_r]
    exact Int32.or_zero
theorem pf_bit2 (S : Sc) (b : Int32) : (f_Reg_putFlag S 64 b).1 8 &&& 32 = S.1 8 &&& 32 := by
  unfold f_Reg_putFlag
  split
  · show (S.1 8 &&& _) &&& 32 = _
    rw [Int32.and_assoc]; rfl
  · show (S.1 8 ||| 64) &&& 32 = _
    rw [and_or_r]
    exact Int32.or_zero
theorem WN_b {S S2 T : Sc} (h : RR S T) (e : S2.1 8 &&& 32 = S.1 8 &&& 32) : WN (f_Reg_wideA S2) (f_Mdl_is T 32) := by
  have k := WN_A h
  unfold f_Reg_wideA at k ⊢
  rw [e]
  exact k
theorem vflag (a v s g : Int32) : (((a ^^^ v) ^^^ (-1 : Int32)) &&& (a ^^^ s)) &&& g = ((a ^^^ s) &&& (v ^^^ s)) &&& g := by
  apply b_ext
  intro i hi
  rw [b_and, b_and, b_xor, b_xor, b_xor, b_and, b_and, b_xor, b_xor, b_m1 i hi]
  cases bt a i <;> cases bt v i <;> cases bt s i <;> rfl
theorem carry {S T : Sc} (h : RR S T) : (f_Mdl_is T 1 = 0 → S.1 8 &&& 1 = 0) ∧ (¬ f_Mdl_is T 1 = 0 → S.1 8 &&& 1 = 1) := by
  unfold f_Mdl_is
  rw [← RRe_8 h, t_b1]
  cases bt (S.1 8) 0
  · exact ⟨fun _ => rfl, fun q => absurd rfl q⟩
  · exact ⟨fun q => absurd q (by decide), fun _ => rfl⟩
theorem two_mul (v : Int32) : (2 : Int32) * v = v <<< ((1 : Int32) &&& 31) := by
  apply Int32.toBitVec_inj.mp
  rw [Int32.toBitVec_mul, Int32.toBitVec_shiftLeft]
  show (2#32) * v.toBitVec = v.toBitVec <<< ((nI 1 &&& 31).toBitVec.smod 32).toNat
  rw [s_l 1 (by decide)]
  apply BitVec.eq_of_toNat_eq
  rw [BitVec.toNat_mul, BitVec.toNat_shiftLeft, Nat.shiftLeft_eq]
  show (2 * v.toBitVec.toNat) % _ = _
  rw [Nat.mul_comm]
theorem bt_nI (k : Nat) {i : Nat} (hi : i < 32) : bt (nI k) i = k.testBit i := by
  unfold bt
  show (BitVec.ofNat 32 k).getLsbD i = _
  rw [BitVec.getLsbD_ofNat, decide_eq_true hi, Bool.true_and]
theorem half_r {n : Nat} (h : n < 65536) : nI n >>> ((1 : Int32) &&& 31) = nI (n / 2) := by
  apply b_ext
  intro i hi
  rw [b_sshr1 _ hi, bt_nI (n / 2) hi]
  by_cases z : 1 + i < 32
  · rw [if_pos z, bt_nI n z, Nat.add_comm 1 i, Nat.testBit_succ]
  · rw [if_neg z, bt_nI n (by decide)]
    have e : i = 31 := by omega
    subst e
    rw [Nat.testBit_lt_two_pow (Nat.lt_of_lt_of_le h (by decide)), Nat.testBit_lt_two_pow (Nat.lt_of_le_of_lt (Nat.div_le_self n 2) (Nat.lt_of_lt_of_le h (by decide)))]
theorem half_l {n : Nat} (h : n < 65536) : nI n / 2 = nI (n / 2) := by
  apply Int32.toInt_inj.mp
  rw [Int32.toInt_div, nI_toInt (by omega), nI_toInt (by omega)]
  have e2 : (2 : Int32).toInt = ((2 : Nat) : Int) := by decide
  rw [e2, ← Int.ofNat_tdiv]
  exact Int.bmod_eq_of_le (by omega) (by omega)
theorem half {v : Int32} (h : r16 v) : v / 2 = v >>> ((1 : Int32) &&& 31) := by
  obtain ⟨n, hn, rfl⟩ := r16_nI h
  rw [half_l hn, half_r hn]
theorem shl1_1 (v : Int32) : (v <<< ((1 : Int32) &&& 31)) + 1 = (v <<< ((1 : Int32) &&& 31)) ||| 1 := add_or (by
  apply b_ext
  intro i hi
  rw [b_and, b_shl1 v hi, b_1 i hi, b_0]
  by_cases z : i = 0
  · subst z; rfl
  · rw [decide_eq_false z, Bool.and_false])
theorem sr_16 {v : Int32} (h : r16 v) : (v >>> ((1 : Int32) &&& 31)) &&& 65535 = v >>> ((1 : Int32) &&& 31) := bt_r16 fun i hi z => by
  rw [b_sshr1 v hi]
  split
  · exact r16_bt h (by omega)
  · exact r16_bt h (by omega)
theorem sr_8 {v : Int32} (h : r8 v) : (v >>> ((1 : Int32) &&& 31)) &&& 255 = v >>> ((1 : Int32) &&& 31) := bt_r8 fun i hi z => by
  rw [b_sshr1 v hi]
  split
  · exact r8_bt h (by omega)
  · exact r8_bt h (by omega)
theorem sr_t16 {v : Int32} (h : r16 v) : (v >>> ((1 : Int32) &&& 31)) + 32768 = (v >>> ((1 : Int32) &&& 31)) ||| 32768 := add_or (by
  apply b_ext
  intro i hi
  rw [b_and, b_sshr1 v hi, b_0]
  by_cases z : i < 15
  · rw [(by decide +kernel : ∀ i, i < 15 → bt 32768 i = false) i z, Bool.and_false]
  · split
    · rw [r16_bt h (by omega), Bool.false_and]
    · rw [r16_bt h (by omega), Bool.false_and])
theorem sr_t8 {v : Int32} (h : r8 v) : (v >>> ((1 : Int32) &&& 31)) + 128 = (v >>> ((1 : Int32) &&& 31)) ||| 128 := add_or (by
  apply b_ext
  intro i hi
  rw [b_and, b_sshr1 v hi, b_0]
  by_cases z : i < 7
  · rw [(by decide +kernel : ∀ i, i < 7 → bt 128 i = false) i z, Bool.and_false]
  · split
    · rw [r8_bt h (by omega), Bool.false_and]
    · rw [r8_bt h (by omega), Bool.false_and])
theorem fl_fr (T : Sc) (f b : Int32) : (f_Mdl_flag T f b).1 14 = T.1 14 ∧ (f_Mdl_flag T f b).1 15 = T.1 15 := by
  unfold f_Mdl_flag
  split
  · exact ⟨rfl, rfl⟩
  · exact ⟨rfl, rfl⟩
theorem res_fl (T : Sc) (v : Int32) {w n : Int32} (hw : WN w n) : ∃ a b : Int32, (f_Mdl_result T v n).2 = f_Mdl_flag (f_Mdl_flag T 128 a) 2 b := by
  rcases hw with ⟨rfl, rfl⟩ | ⟨rfl, rfl⟩
  · unfold f_Mdl_result
    rw [if_pos (rfl : (0 : Int32) = 0)]
    by_cases a : (f_Mdl_cut v 0 &&& (32768 : Int32)) = (0 : Int32)
    · rw [if_pos a]
      refine ⟨0, if f_Mdl_cut v 0 = (0 : Int32) then 1 else 0, ?_⟩
      show (if f_Mdl_cut v 0 = (0 : Int32) then _ else _ : Int32 × Sc).2 = _
      by_cases b : f_Mdl_cut v 0 = (0 : Int32)
      · rw [if_pos b, if_pos b]; rfl
      · rw [if_neg b, if_neg b]; rfl
    · rw [if_neg a]
      refine ⟨1, if f_Mdl_cut v 0 = (0 : Int32) then 1 else 0, ?_⟩
      show (if f_Mdl_cut v 0 = (0 : Int32) then _ else _ : Int32 × Sc).2 = _
      by_cases b : f_Mdl_cut v 0 = (0 : Int32)
      · rw [if_pos b, if_pos b]; rfl
      · rw [if_neg b, if_neg b]; rfl
  · unfold f_Mdl_result
    rw [if_neg (by decide : ¬ (1 : Int32) = 0)]
    by_cases a : (f_Mdl_cut v 1 &&& (128 : Int32)) = (0 : Int32)
    · rw [if_pos a]
      refine ⟨0, if f_Mdl_cut v 1 = (0 : Int32) then 1 else 0, ?_⟩
      show (if f_Mdl_cut v 1 = (0 : Int32) then _ else _ : Int32 × Sc).2 = _
      by_cases b : f_Mdl_cut v 1 = (0 : Int32)
      · rw [if_pos b, if_pos b]; rfl
      · rw [if_neg b, if_neg b]; rfl
    · rw [if_neg a]
      refine ⟨1, if f_Mdl_cut v 1 = (0 : Int32) then 1 else 0, ?_⟩
      show (if f_Mdl_cut v 1 = (0 : Int32) then _ else _ : Int32 × Sc).2 = _
      by_cases b : f_Mdl_cut v 1 = (0 : Int32)
      · rw [if_pos b, if_pos b]; rfl
      · rw [if_neg b, if_neg b]; rfl
theorem res_fr (T : Sc) (v : Int32) {w n : Int32} (hw : WN w n) : (f_Mdl_result T v n).2.1 14 = T.1 14 ∧ (f_Mdl_result T v n).2.1 15 = T.1 15 := by
  obtain ⟨a, b, e⟩ := res_fl T v hw
  rw [e, (fl_fr _ 2 b).1, (fl_fr _ 2 b).2]
  exact fl_fr T 128 a
theorem ld_fr (T : Sc) {w n : Int32} (hw : WN w n) : (f_Mdl_load T n).2.1 14 = T.1 14 ∧ (f_Mdl_load T n).2.1 15 = T.1 15 := by
  rcases hw with ⟨rfl, rfl⟩ | ⟨rfl, rfl⟩
  · exact ⟨rfl, rfl⟩
  · exact ⟨rfl, rfl⟩
def SC (S T : Sc) (v w n kc km : Int32) : Prop := ∃ (T2 : Sc) (E : Int32), f_Mdl_changed T km v n = f_Mdl_result T2 E n ∧ RR (f_Prc_changed S kc v w).2 T2 ∧ (f_Prc_changed S kc v w).1 = E &&& f_Reg_maskOf w ∧ (f_Prc_changed S kc v w).2.1 8 &&& 32 = S.1 8 &&& 32 ∧ T2.1 14 = T.1 14 ∧ T2.1 15 = T.1 15
theorem cc_0 (S : Sc) (x2 x3 : Int32) : f_Prc_changed S (0 : Int32) x2 x3 = if (x2 &&& (f_Reg_signOf x3)) = (0 : Int32) then (bs (f_Reg_putFlag S (1 : Int32) (0 : Int32)) (fun S2 => (((x2 <<< ((1 : Int32) &&& 31)) &&& (f_Reg_maskOf x3)), S2))) else (bs (f_Reg_putFlag S (1 : Int32) (1 : Int32)) (fun S4 => (((x2 <<< ((1 : Int32) &&& 31)) &&& (f_Reg_maskOf x3)), S4))) := rfl
theorem mc_2 (T : Sc) (x2 x3 : Int32) : f_Mdl_changed T (2 : Int32) x2 x3 = if x3 = (0 : Int32) then (if (f_Mdl_is T (1 : Int32)) = (0 : Int32) then (if (x2 &&& (32768 : Int32)) = (0 : Int32) then (bs (f_Mdl_flag T (1 : Int32) (0 : Int32)) (fun S4 => bn (f_Mdl_result S4 (((2 : Int32) * x2) + (0 : Int32)) x3) (fun r6 S7 => (r6, S7)))) else (bs (f_Mdl_flag T (1 : Int32) (1 : Int32)) (fun S9 => bn (f_Mdl_result S9 (((2 : Int32) * x2) + (0 : Int32)) x3) (fun r11 S12 => (r11, S12))))) else (if (x2 &&& (32768 : Int32)) = (0 : Int32) then (bs (f_Mdl_flag T (1 : Int32) (0 : Int32)) (fun S15 => bn (f_Mdl_result S15 (((2 : Int32) * x2) + (0 : Int32)) x3) (fun r17 S18 => (r17, S18)))) else (bs (f_Mdl_flag T (1 : Int32) (1 : Int32)) (fun S20 => bn (f_Mdl_result S20 (((2 : Int32) * x2) + (0 : Int32)) x3) (fun r22 S23 => (r22, S23)))))) else (if (f_Mdl_is T (1 : Int32)) = (0 : Int32) then (if (x2 &&& (128 : Int32)) = (0 : Int32) then (bs (f_Mdl_flag T (1 : Int32) (0 : Int32)) (fun S27 => bn (f_Mdl_result S27 (((2 : Int32) * x2) + (0 : Int32)) x3) (fun r29 S30 => (r29, S30)))) else (bs (f_Mdl_flag T (1 : Int32) (1 : Int32)) (fun S32 => bn (f_Mdl_result S32 (((2 : Int32) * x2) + (0 : Int32)) x3) (fun r34 S35 => (r34, S35))))) else (if (x2 &&& (128 : Int32)) = (0 : Int32) then (bs (f_Mdl_flag T (1 : Int32) (0 : Int32)) (fun S38 => bn (f_Mdl_result S38 (((2 : Int32) * x2) + (0 : Int32)) x3) (fun r40 S41 => (r40, S41)))) else (bs (f_Mdl_flag T (1 : Int32) (1 : Int32)) (fun S43 => bn (f_Mdl_result S43 (((2 : Int32) * x2) + (0 : Int32)) x3) (fun r45 S46 => (r45, S46)))))) := rfl
theorem sc_0 {S T : Sc} {v w n : Int32} (h : RR S T) (hw : WN w n) (hv : v &&& f_Reg_maskOf w = v) : SC S T v w n 0 2 := by
  have hk := has_is h 1
  rcases hw with ⟨rfl, rfl⟩ | ⟨rfl, rfl⟩
  · have hv : v &&& (65535 : Int32) = v := hv
    have hv16 : r16 v := hv
    by_cases k : f_Mdl_is T 1 = (0 : Int32)
    · by_cases a : (v &&& (32768 : Int32)) = (0 : Int32)
      · have C : f_Prc_changed S 0 v 1 = (((v <<< ((1 : Int32) &&& 31)) &&& f_Reg_maskOf 1), f_Reg_putFlag S 1 0) := by
          rw [cc_0, if_pos (show (v &&& f_Reg_signOf 1) = (0 : Int32) from a)]
          rfl
        have M : f_Mdl_changed T 2 v 0 = f_Mdl_result (f_Mdl_flag T 1 0) (((2 : Int32) * v) + (0 : Int32)) 0 := by
          rw [mc_2, if_pos (rfl : (0 : Int32) = 0), if_pos k, if_pos a]; rfl
        unfold SC; rw [C]
        refine ⟨_, _, M, s_flag h 1 0 (by decide), ?_, pf_bit S 0, rfl, rfl⟩
        show ((v <<< ((1 : Int32) &&& 31)) &&& (65535 : Int32)) = (((2 : Int32) * v) + (0 : Int32)) &&& (65535 : Int32)
        rw [Int32.add_zero, two_mul]
      · have C : f_Prc_changed S 0 v 1 = (((v <<< ((1 : Int32) &&& 31)) &&& f_Reg_maskOf 1), f_Reg_putFlag S 1 1) := by
          rw [cc_0, if_neg (show ¬ (v &&& f_Reg_signOf 1) = (0 : Int32) from a)]
          rfl
        have M : f_Mdl_changed T 2 v 0 = f_Mdl_result (f_Mdl_flag T 1 1) (((2 : Int32) * v) + (0 : Int32)) 0 := by
          rw [mc_2, if_pos (rfl : (0 : Int32) = 0), if_pos k, if_neg a]; rfl
        unfold SC; rw [C]
        refine ⟨_, _, M, s_flag h 1 1 (by decide), ?_, pf_bit S 1, rfl, rfl⟩
        show ((v <<< ((1 : Int32) &&& 31)) &&& (65535 : Int32)) = (((2 : Int32) * v) + (0 : Int32)) &&& (65535 : Int32)
        rw [Int32.add_zero, two_mul]
    · by_cases a : (v &&& (32768 : Int32)) = (0 : Int32)
      · have C : f_Prc_changed S 0 v 1 = (((v <<< ((1 : Int32) &&& 31)) &&& f_Reg_maskOf 1), f_Reg_putFlag S 1 0) := by
          rw [cc_0, if_pos (show (v &&& f_Reg_signOf 1) = (0 : Int32) from a)]
          rfl
        have M : f_Mdl_changed T 2 v 0 = f_Mdl_result (f_Mdl_flag T 1 0) (((2 : Int32) * v) + (0 : Int32)) 0 := by
          rw [mc_2, if_pos (rfl : (0 : Int32) = 0), if_neg k, if_pos a]; rfl
        unfold SC; rw [C]
        refine ⟨_, _, M, s_flag h 1 0 (by decide), ?_, pf_bit S 0, rfl, rfl⟩
        show ((v <<< ((1 : Int32) &&& 31)) &&& (65535 : Int32)) = (((2 : Int32) * v) + (0 : Int32)) &&& (65535 : Int32)
        rw [Int32.add_zero, two_mul]
      · have C : f_Prc_changed S 0 v 1 = (((v <<< ((1 : Int32) &&& 31)) &&& f_Reg_maskOf 1), f_Reg_putFlag S 1 1) := by
          rw [cc_0, if_neg (show ¬ (v &&& f_Reg_signOf 1) = (0 : Int32) from a)]
          rfl
        have M : f_Mdl_changed T 2 v 0 = f_Mdl_result (f_Mdl_flag T 1 1) (((2 : Int32) * v) + (0 : Int32)) 0 := by
          rw [mc_2, if_pos (rfl : (0 : Int32) = 0), if_neg k, if_neg a]; rfl
        unfold SC; rw [C]
        refine ⟨_, _, M, s_flag h 1 1 (by decide), ?_, pf_bit S 1, rfl, rfl⟩
        show ((v <<< ((1 : Int32) &&& 31)) &&& (65535 : Int32)) = (((2 : Int32) * v) + (0 : Int32)) &&& (65535 : Int32)
        rw [Int32.add_zero, two_mul]
  · have hv : v &&& (255 : Int32) = v := hv
    have hv16 : r16 v := r8_16 hv
    by_cases k : f_Mdl_is T 1 = (0 : Int32)
    · by_cases a : (v &&& (128 : Int32)) = (0 : Int32)
      · have C : f_Prc_changed S 0 v 0 = (((v <<< ((1 : Int32) &&& 31)) &&& f_Reg_maskOf 0), f_Reg_putFlag S 1 0) := by
          rw [cc_0, if_pos (show (v &&& f_Reg_signOf 0) = (0 : Int32) from a)]
          rfl
        have M : f_Mdl_changed T 2 v 1 = f_Mdl_result (f_Mdl_flag T 1 0) (((2 : Int32) * v) + (0 : Int32)) 1 := by
          rw [mc_2, if_neg (by decide : ¬ (1 : Int32) = 0), if_pos k, if_pos a]; rfl
        unfold SC; rw [C]
        refine ⟨_, _, M, s_flag h 1 0 (by decide), ?_, pf_bit S 0, rfl, rfl⟩
        show ((v <<< ((1 : Int32) &&& 31)) &&& (255 : Int32)) = (((2 : Int32) * v) + (0 : Int32)) &&& (255 : Int32)
        rw [Int32.add_zero, two_mul]
      · have C : f_Prc_changed S 0 v 0 = (((v <<< ((1 : Int32) &&& 31)) &&& f_Reg_maskOf 0), f_Reg_putFlag S 1 1) := by
          rw [cc_0, if_neg (show ¬ (v &&& f_Reg_signOf 0) = (0 : Int32) from a)]
          rfl
        have M : f_Mdl_changed T 2 v 1 = f_Mdl_result (f_Mdl_flag T 1 1) (((2 : Int32) * v) + (0 : Int32)) 1 := by
          rw [mc_2, if_neg (by decide : ¬ (1 : Int32) = 0), if_pos k, if_neg a]; rfl
        unfold SC; rw [C]
        refine ⟨_, _, M, s_flag h 1 1 (by decide), ?_, pf_bit S 1, rfl, rfl⟩
        show ((v <<< ((1 : Int32) &&& 31)) &&& (255 : Int32)) = (((2 : Int32) * v) + (0 : Int32)) &&& (255 : Int32)
        rw [Int32.add_zero, two_mul]
    · by_cases a : (v &&& (128 : Int32)) = (0 : Int32)
      · have C : f_Prc_changed S 0 v 0 = (((v <<< ((1 : Int32) &&& 31)) &&& f_Reg_maskOf 0), f_Reg_putFlag S 1 0) := by
          rw [cc_0, if_pos (show (v &&& f_Reg_signOf 0) = (0 : Int32) from a)]
          rfl
        have M : f_Mdl_changed T 2 v 1 = f_Mdl_result (f_Mdl_flag T 1 0) (((2 : Int32) * v) + (0 : Int32)) 1 := by
          rw [mc_2, if_neg (by decide : ¬ (1 : Int32) = 0), if_neg k, if_pos a]; rfl
        unfold SC; rw [C]
        refine ⟨_, _, M, s_flag h 1 0 (by decide), ?_, pf_bit S 0, rfl, rfl⟩
        show ((v <<< ((1 : Int32) &&& 31)) &&& (255 : Int32)) = (((2 : Int32) * v) + (0 : Int32)) &&& (255 : Int32)
        rw [Int32.add_zero, two_mul]
      · have C : f_Prc_changed S 0 v 0 = (((v <<< ((1 : Int32) &&& 31)) &&& f_Reg_maskOf 0), f_Reg_putFlag S 1 1) := by
          rw [cc_0, if_neg (show ¬ (v &&& f_Reg_signOf 0) = (0 : Int32) from a)]
          rfl
        have M : f_Mdl_changed T 2 v 1 = f_Mdl_result (f_Mdl_flag T 1 1) (((2 : Int32) * v) + (0 : Int32)) 1 := by
          rw [mc_2, if_neg (by decide : ¬ (1 : Int32) = 0), if_neg k, if_neg a]; rfl
        unfold SC; rw [C]
        refine ⟨_, _, M, s_flag h 1 1 (by decide), ?_, pf_bit S 1, rfl, rfl⟩
        show ((v <<< ((1 : Int32) &&& 31)) &&& (255 : Int32)) = (((2 : Int32) * v) + (0 : Int32)) &&& (255 : Int32)
        rw [Int32.add_zero, two_mul]
theorem cc_1 (S : Sc) (x2 x3 : Int32) : f_Prc_changed S (1 : Int32) x2 x3 = if (x2 &&& (f_Reg_signOf x3)) = (0 : Int32) then (bs (f_Reg_putFlag S (1 : Int32) (0 : Int32)) (fun S2 => if (f_Reg_has S (1 : Int32)) = (0 : Int32) then (((((x2 <<< ((1 : Int32) &&& 31)) &&& (f_Reg_maskOf x3)) ||| (0 : Int32)), S2)) else (((((x2 <<< ((1 : Int32) &&& 31)) &&& (f_Reg_maskOf x3)) ||| (1 : Int32)), S2)))) else (bs (f_Reg_putFlag S (1 : Int32) (1 : Int32)) (fun S5 => if (f_Reg_has S (1 : Int32)) = (0 : Int32) then (((((x2 <<< ((1 : Int32) &&& 31)) &&& (f_Reg_maskOf x3)) ||| (0 : Int32)), S5)) else (((((x2 <<< ((1 : Int32) &&& 31)) &&& (f_Reg_maskOf x3)) ||| (1 : Int32)), S5)))) := rfl
theorem mc_3 (T : Sc) (x2 x3 : Int32) : f_Mdl_changed T (3 : Int32) x2 x3 = if x3 = (0 : Int32) then (if (f_Mdl_is T (1 : Int32)) = (0 : Int32) then (if (x2 &&& (32768 : Int32)) = (0 : Int32) then (bs (f_Mdl_flag T (1 : Int32) (0 : Int32)) (fun S4 => bn (f_Mdl_result S4 (((2 : Int32) * x2) + (0 : Int32)) x3) (fun r6 S7 => (r6, S7)))) else (bs (f_Mdl_flag T (1 : Int32) (1 : Int32)) (fun S9 => bn (f_Mdl_result S9 (((2 : Int32) * x2) + (0 : Int32)) x3) (fun r11 S12 => (r11, S12))))) else (if (x2 &&& (32768 : Int32)) = (0 : Int32) then (bs (f_Mdl_flag T (1 : Int32) (0 : Int32)) (fun S15 => bn (f_Mdl_result S15 (((2 : Int32) * x2) + (1 : Int32)) x3) (fun r17 S18 => (r17, S18)))) else (bs (f_Mdl_flag T (1 : Int32) (1 : Int32)) (fun S20 => bn (f_Mdl_result S20 (((2 : Int32) * x2) + (1 : Int32)) x3) (fun r22 S23 => (r22, S23)))))) else (if (f_Mdl_is T (1 : Int32)) = (0 : Int32) then (if (x2 &&& (128 : Int32)) = (0 : Int32) then (bs (f_Mdl_flag T (1 : Int32) (0 : Int32)) (fun S27 => bn (f_Mdl_result S27 (((2 : Int32) * x2) + (0 : Int32)) x3) (fun r29 S30 => (r29, S30)))) else (bs (f_Mdl_flag T (1 : Int32) (1 : Int32)) (fun S32 => bn (f_Mdl_result S32 (((2 : Int32) * x2) + (0 : Int32)) x3) (fun r34 S35 => (r34, S35))))) else (if (x2 &&& (128 : Int32)) = (0 : Int32) then (bs (f_Mdl_flag T (1 : Int32) (0 : Int32)) (fun S38 => bn (f_Mdl_result S38 (((2 : Int32) * x2) + (1 : Int32)) x3) (fun r40 S41 => (r40, S41)))) else (bs (f_Mdl_flag T (1 : Int32) (1 : Int32)) (fun S43 => bn (f_Mdl_result S43 (((2 : Int32) * x2) + (1 : Int32)) x3) (fun r45 S46 => (r45, S46)))))) := rfl
theorem sc_1 {S T : Sc} {v w n : Int32} (h : RR S T) (hw : WN w n) (hv : v &&& f_Reg_maskOf w = v) : SC S T v w n 1 3 := by
  have hk := has_is h 1
  rcases hw with ⟨rfl, rfl⟩ | ⟨rfl, rfl⟩
  · have hv : v &&& (65535 : Int32) = v := hv
    have hv16 : r16 v := hv
    by_cases k : f_Mdl_is T 1 = (0 : Int32)
    · by_cases a : (v &&& (32768 : Int32)) = (0 : Int32)
      · have C : f_Prc_changed S 1 v 1 = ((((v <<< ((1 : Int32) &&& 31)) &&& f_Reg_maskOf 1) ||| (0 : Int32)), f_Reg_putFlag S 1 0) := by
          rw [cc_1, if_pos (show (v &&& f_Reg_signOf 1) = (0 : Int32) from a)]
          show (if f_Reg_has S 1 = (0 : Int32) then _ else _) = _
          rw [hk, if_pos k]
        have M : f_Mdl_changed T 3 v 0 = f_Mdl_result (f_Mdl_flag T 1 0) (((2 : Int32) * v) + (0 : Int32)) 0 := by
          rw [mc_3, if_pos (rfl : (0 : Int32) = 0), if_pos k, if_pos a]; rfl
        unfold SC; rw [C]
        refine ⟨_, _, M, s_flag h 1 0 (by decide), ?_, pf_bit S 0, rfl, rfl⟩
        show (((v <<< ((1 : Int32) &&& 31)) &&& (65535 : Int32)) ||| (0 : Int32)) = (((2 : Int32) * v) + (0 : Int32)) &&& (65535 : Int32)
        rw [Int32.add_zero, two_mul, Int32.or_zero]
      · have C : f_Prc_changed S 1 v 1 = ((((v <<< ((1 : Int32) &&& 31)) &&& f_Reg_maskOf 1) ||| (0 : Int32)), f_Reg_putFlag S 1 1) := by
          rw [cc_1, if_neg (show ¬ (v &&& f_Reg_signOf 1) = (0 : Int32) from a)]
          show (if f_Reg_has S 1 = (0 : Int32) then _ else _) = _
          rw [hk, if_pos k]
        have M : f_Mdl_changed T 3 v 0 = f_Mdl_result (f_Mdl_flag T 1 1) (((2 : Int32) * v) + (0 : Int32)) 0 := by
          rw [mc_3, if_pos (rfl : (0 : Int32) = 0), if_pos k, if_neg a]; rfl
        unfold SC; rw [C]
        refine ⟨_, _, M, s_flag h 1 1 (by decide), ?_, pf_bit S 1, rfl, rfl⟩
        show (((v <<< ((1 : Int32) &&& 31)) &&& (65535 : Int32)) ||| (0 : Int32)) = (((2 : Int32) * v) + (0 : Int32)) &&& (65535 : Int32)
        rw [Int32.add_zero, two_mul, Int32.or_zero]
    · by_cases a : (v &&& (32768 : Int32)) = (0 : Int32)
      · have C : f_Prc_changed S 1 v 1 = ((((v <<< ((1 : Int32) &&& 31)) &&& f_Reg_maskOf 1) ||| (1 : Int32)), f_Reg_putFlag S 1 0) := by
          rw [cc_1, if_pos (show (v &&& f_Reg_signOf 1) = (0 : Int32) from a)]
          show (if f_Reg_has S 1 = (0 : Int32) then _ else _) = _
          rw [hk, if_neg k]
        have M : f_Mdl_changed T 3 v 0 = f_Mdl_result (f_Mdl_flag T 1 0) (((2 : Int32) * v) + (1 : Int32)) 0 := by
          rw [mc_3, if_pos (rfl : (0 : Int32) = 0), if_neg k, if_pos a]; rfl
        unfold SC; rw [C]
        refine ⟨_, _, M, s_flag h 1 0 (by decide), ?_, pf_bit S 0, rfl, rfl⟩
        show (((v <<< ((1 : Int32) &&& 31)) &&& (65535 : Int32)) ||| (1 : Int32)) = (((2 : Int32) * v) + (1 : Int32)) &&& (65535 : Int32)
        rw [two_mul, shl1_1, and_or_r]; rfl
      · have C : f_Prc_changed S 1 v 1 = ((((v <<< ((1 : Int32) &&& 31)) &&& f_Reg_maskOf 1) ||| (1 : Int32)), f_Reg_putFlag S 1 1) := by
          rw [cc_1, if_neg (show ¬ (v &&& f_Reg_signOf 1) = (0 : Int32) from a)]
          show (if f_Reg_has S 1 = (0 : Int32) then _ else _) = _
          rw [hk, if_neg k]
        have M : f_Mdl_changed T 3 v 0 = f_Mdl_result (f_Mdl_flag T 1 1) (((2 : Int32) * v) + (1 : Int32)) 0 := by
          rw [mc_3, if_pos (rfl : (0 : Int32) = 0), if_neg k, if_neg a]; rfl
        unfold SC; rw [C]
        refine ⟨_, _, M, s_flag h 1 1 (by decide), ?_, pf_bit S 1, rfl, rfl⟩
        show (((v <<< ((1 : Int32) &&& 31)) &&& (65535 : Int32)) ||| (1 : Int32)) = (((2 : Int32) * v) + (1 : Int32)) &&& (65535 : Int32)
        rw [two_mul, shl1_1, and_or_r]; rfl
  · have hv : v &&& (255 : Int32) = v := hv
    have hv16 : r16 v := r8_16 hv
    by_cases k : f_Mdl_is T 1 = (0 : Int32)
    · by_cases a : (v &&& (128 : Int32)) = (0 : Int32)
      · have C : f_Prc_changed S 1 v 0 = ((((v <<< ((1 : Int32) &&& 31)) &&& f_Reg_maskOf 0) ||| (0 : Int32)), f_Reg_putFlag S 1 0) := by
          rw [cc_1, if_pos (show (v &&& f_Reg_signOf 0) = (0 : Int32) from a)]
          show (if f_Reg_has S 1 = (0 : Int32) then _ else _) = _
          rw [hk, if_pos k]
        have M : f_Mdl_changed T 3 v 1 = f_Mdl_result (f_Mdl_flag T 1 0) (((2 : Int32) * v) + (0 : Int32)) 1 := by
          rw [mc_3, if_neg (by decide : ¬ (1 : Int32) = 0), if_pos k, if_pos a]; rfl
        unfold SC; rw [C]
        refine ⟨_, _, M, s_flag h 1 0 (by decide), ?_, pf_bit S 0, rfl, rfl⟩
        show (((v <<< ((1 : Int32) &&& 31)) &&& (255 : Int32)) ||| (0 : Int32)) = (((2 : Int32) * v) + (0 : Int32)) &&& (255 : Int32)
        rw [Int32.add_zero, two_mul, Int32.or_zero]
      · have C : f_Prc_changed S 1 v 0 = ((((v <<< ((1 : Int32) &&& 31)) &&& f_Reg_maskOf 0) ||| (0 : Int32)), f_Reg_putFlag S 1 1) := by
          rw [cc_1, if_neg (show ¬ (v &&& f_Reg_signOf 0) = (0 : Int32) from a)]
          show (if f_Reg_has S 1 = (0 : Int32) then _ else _) = _
          rw [hk, if_pos k]
        have M : f_Mdl_changed T 3 v 1 = f_Mdl_result (f_Mdl_flag T 1 1) (((2 : Int32) * v) + (0 : Int32)) 1 := by
          rw [mc_3, if_neg (by decide : ¬ (1 : Int32) = 0), if_pos k, if_neg a]; rfl
        unfold SC; rw [C]
        refine ⟨_, _, M, s_flag h 1 1 (by decide), ?_, pf_bit S 1, rfl, rfl⟩
        show (((v <<< ((1 : Int32) &&& 31)) &&& (255 : Int32)) ||| (0 : Int32)) = (((2 : Int32) * v) + (0 : Int32)) &&& (255 : Int32)
        rw [Int32.add_zero, two_mul, Int32.or_zero]
    · by_cases a : (v &&& (128 : Int32)) = (0 : Int32)
      · have C : f_Prc_changed S 1 v 0 = ((((v <<< ((1 : Int32) &&& 31)) &&& f_Reg_maskOf 0) ||| (1 : Int32)), f_Reg_putFlag S 1 0) := by
          rw [cc_1, if_pos (show (v &&& f_Reg_signOf 0) = (0 : Int32) from a)]
          show (if f_Reg_has S 1 = (0 : Int32) then _ else _) = _
          rw [hk, if_neg k]
        have M : f_Mdl_changed T 3 v 1 = f_Mdl_result (f_Mdl_flag T 1 0) (((2 : Int32) * v) + (1 : Int32)) 1 := by
          rw [mc_3, if_neg (by decide : ¬ (1 : Int32) = 0), if_neg k, if_pos a]; rfl
        unfold SC; rw [C]
        refine ⟨_, _, M, s_flag h 1 0 (by decide), ?_, pf_bit S 0, rfl, rfl⟩
        show (((v <<< ((1 : Int32) &&& 31)) &&& (255 : Int32)) ||| (1 : Int32)) = (((2 : Int32) * v) + (1 : Int32)) &&& (255 : Int32)
        rw [two_mul, shl1_1, and_or_r]; rfl
      · have C : f_Prc_changed S 1 v 0 = ((((v <<< ((1 : Int32) &&& 31)) &&& f_Reg_maskOf 0) ||| (1 : Int32)), f_Reg_putFlag S 1 1) := by
          rw [cc_1, if_neg (show ¬ (v &&& f_Reg_signOf 0) = (0 : Int32) from a)]
          show (if f_Reg_has S 1 = (0 : Int32) then _ else _) = _
          rw [hk, if_neg k]
        have M : f_Mdl_changed T 3 v 1 = f_Mdl_result (f_Mdl_flag T 1 1) (((2 : Int32) * v) + (1 : Int32)) 1 := by
          rw [mc_3, if_neg (by decide : ¬ (1 : Int32) = 0), if_neg k, if_neg a]; rfl
        unfold SC; rw [C]
        refine ⟨_, _, M, s_flag h 1 1 (by decide), ?_, pf_bit S 1, rfl, rfl⟩
        show (((v <<< ((1 : Int32) &&& 31)) &&& (255 : Int32)) ||| (1 : Int32)) = (((2 : Int32) * v) + (1 : Int32)) &&& (255 : Int32)
        rw [two_mul, shl1_1, and_or_r]; rfl
theorem cc_2 (S : Sc) (x2 x3 : Int32) : f_Prc_changed S (2 : Int32) x2 x3 = if (x2 &&& (1 : Int32)) = (0 : Int32) then (bs (f_Reg_putFlag S (1 : Int32) (0 : Int32)) (fun S2 => ((x2 >>> ((1 : Int32) &&& 31)), S2))) else (bs (f_Reg_putFlag S (1 : Int32) (1 : Int32)) (fun S4 => ((x2 >>> ((1 : Int32) &&& 31)), S4))) := rfl
theorem mc_4 (T : Sc) (x2 x3 : Int32) : f_Mdl_changed T (4 : Int32) x2 x3 = if x3 = (0 : Int32) then (if (f_Mdl_is T (1 : Int32)) = (0 : Int32) then (if (x2 &&& (1 : Int32)) = (0 : Int32) then (bs (f_Mdl_flag T (1 : Int32) (0 : Int32)) (fun S4 => bn (f_Mdl_result S4 ((x2 / (2 : Int32)) + (0 : Int32)) x3) (fun r6 S7 => (r6, S7)))) else (bs (f_Mdl_flag T (1 : Int32) (1 : Int32)) (fun S9 => bn (f_Mdl_result S9 ((x2 / (2 : Int32)) + (0 : Int32)) x3) (fun r11 S12 => (r11, S12))))) else (if (x2 &&& (1 : Int32)) = (0 : Int32) then (bs (f_Mdl_flag T (1 : Int32) (0 : Int32)) (fun S15 => bn (f_Mdl_result S15 ((x2 / (2 : Int32)) + (0 : Int32)) x3) (fun r17 S18 => (r17, S18)))) else (bs (f_Mdl_flag T (1 : Int32) (1 : Int32)) (fun S20 => bn (f_Mdl_result S20 ((x2 / (2 : Int32)) + (0 : Int32)) x3) (fun r22 S23 => (r22, S23)))))) else (if (f_Mdl_is T (1 : Int32)) = (0 : Int32) then (if (x2 &&& (1 : Int32)) = (0 : Int32) then (bs (f_Mdl_flag T (1 : Int32) (0 : Int32)) (fun S27 => bn (f_Mdl_result S27 ((x2 / (2 : Int32)) + (0 : Int32)) x3) (fun r29 S30 => (r29, S30)))) else (bs (f_Mdl_flag T (1 : Int32) (1 : Int32)) (fun S32 => bn (f_Mdl_result S32 ((x2 / (2 : Int32)) + (0 : Int32)) x3) (fun r34 S35 => (r34, S35))))) else (if (x2 &&& (1 : Int32)) = (0 : Int32) then (bs (f_Mdl_flag T (1 : Int32) (0 : Int32)) (fun S38 => bn (f_Mdl_result S38 ((x2 / (2 : Int32)) + (0 : Int32)) x3) (fun r40 S41 => (r40, S41)))) else (bs (f_Mdl_flag T (1 : Int32) (1 : Int32)) (fun S43 => bn (f_Mdl_result S43 ((x2 / (2 : Int32)) + (0 : Int32)) x3) (fun r45 S46 => (r45, S46)))))) := rfl
theorem sc_2 {S T : Sc} {v w n : Int32} (h : RR S T) (hw : WN w n) (hv : v &&& f_Reg_maskOf w = v) : SC S T v w n 2 4 := by
  have hk := has_is h 1
  rcases hw with ⟨rfl, rfl⟩ | ⟨rfl, rfl⟩
  · have hv : v &&& (65535 : Int32) = v := hv
    have hv16 : r16 v := hv
    by_cases k : f_Mdl_is T 1 = (0 : Int32)
    · by_cases a : (v &&& (1 : Int32)) = (0 : Int32)
      · have C : f_Prc_changed S 2 v 1 = ((v >>> ((1 : Int32) &&& 31)), f_Reg_putFlag S 1 0) := by
          rw [cc_2, if_pos a]
          rfl
        have M : f_Mdl_changed T 4 v 0 = f_Mdl_result (f_Mdl_flag T 1 0) ((v / (2 : Int32)) + (0 : Int32)) 0 := by
          rw [mc_4, if_pos (rfl : (0 : Int32) = 0), if_pos k, if_pos a]; rfl
        unfold SC; rw [C]
        refine ⟨_, _, M, s_flag h 1 0 (by decide), ?_, pf_bit S 0, rfl, rfl⟩
        show (v >>> ((1 : Int32) &&& 31)) = ((v / (2 : Int32)) + (0 : Int32)) &&& (65535 : Int32)
        rw [Int32.add_zero, half hv16, sr_16 hv]
      · have C : f_Prc_changed S 2 v 1 = ((v >>> ((1 : Int32) &&& 31)), f_Reg_putFlag S 1 1) := by
          rw [cc_2, if_neg a]
          rfl
        have M : f_Mdl_changed T 4 v 0 = f_Mdl_result (f_Mdl_flag T 1 1) ((v / (2 : Int32)) + (0 : Int32)) 0 := by
          rw [mc_4, if_pos (rfl : (0 : Int32) = 0), if_pos k, if_neg a]; rfl
        unfold SC; rw [C]
        refine ⟨_, _, M, s_flag h 1 1 (by decide), ?_, pf_bit S 1, rfl, rfl⟩
        show (v >>> ((1 : Int32) &&& 31)) = ((v / (2 : Int32)) + (0 : Int32)) &&& (65535 : Int32)
        rw [Int32.add_zero, half hv16, sr_16 hv]
    · by_cases a : (v &&& (1 : Int32)) = (0 : Int32)
      · have C : f_Prc_changed S 2 v 1 = ((v >>> ((1 : Int32) &&& 31)), f_Reg_putFlag S 1 0) := by
          rw [cc_2, if_pos a]
          rfl
        have M : f_Mdl_changed T 4 v 0 = f_Mdl_result (f_Mdl_flag T 1 0) ((v / (2 : Int32)) + (0 : Int32)) 0 := by
          rw [mc_4, if_pos (rfl : (0 : Int32) = 0), if_neg k, if_pos a]; rfl
        unfold SC; rw [C]
        refine ⟨_, _, M, s_flag h 1 0 (by decide), ?_, pf_bit S 0, rfl, rfl⟩
        show (v >>> ((1 : Int32) &&& 31)) = ((v / (2 : Int32)) + (0 : Int32)) &&& (65535 : Int32)
        rw [Int32.add_zero, half hv16, sr_16 hv]
      · have C : f_Prc_changed S 2 v 1 = ((v >>> ((1 : Int32) &&& 31)), f_Reg_putFlag S 1 1) := by
          rw [cc_2, if_neg a]
          rfl
        have M : f_Mdl_changed T 4 v 0 = f_Mdl_result (f_Mdl_flag T 1 1) ((v / (2 : Int32)) + (0 : Int32)) 0 := by
          rw [mc_4, if_pos (rfl : (0 : Int32) = 0), if_neg k, if_neg a]; rfl
        unfold SC; rw [C]
        refine ⟨_, _, M, s_flag h 1 1 (by decide), ?_, pf_bit S 1, rfl, rfl⟩
        show (v >>> ((1 : Int32) &&& 31)) = ((v / (2 : Int32)) + (0 : Int32)) &&& (65535 : Int32)
        rw [Int32.add_zero, half hv16, sr_16 hv]
  · have hv : v &&& (255 : Int32) = v := hv
    have hv16 : r16 v := r8_16 hv
    by_cases k : f_Mdl_is T 1 = (0 : Int32)
    · by_cases a : (v &&& (1 : Int32)) = (0 : Int32)
      · have C : f_Prc_changed S 2 v 0 = ((v >>> ((1 : Int32) &&& 31)), f_Reg_putFlag S 1 0) := by
          rw [cc_2, if_pos a]
          rfl
        have M : f_Mdl_changed T 4 v 1 = f_Mdl_result (f_Mdl_flag T 1 0) ((v / (2 : Int32)) + (0 : Int32)) 1 := by
          rw [mc_4, if_neg (by decide : ¬ (1 : Int32) = 0), if_pos k, if_pos a]; rfl
        unfold SC; rw [C]
        refine ⟨_, _, M, s_flag h 1 0 (by decide), ?_, pf_bit S 0, rfl, rfl⟩
        show (v >>> ((1 : Int32) &&& 31)) = ((v / (2 : Int32)) + (0 : Int32)) &&& (255 : Int32)
        rw [Int32.add_zero, half hv16, sr_8 hv]
      · have C : f_Prc_changed S 2 v 0 = ((v >>> ((1 : Int32) &&& 31)), f_Reg_putFlag S 1 1) := by
          rw [cc_2, if_neg a]
          rfl
        have M : f_Mdl_changed T 4 v 1 = f_Mdl_result (f_Mdl_flag T 1 1) ((v / (2 : Int32)) + (0 : Int32)) 1 := by
          rw [mc_4, if_neg (by decide : ¬ (1 : Int32) = 0), if_pos k, if_neg a]; rfl
        unfold SC; rw [C]
        refine ⟨_, _, M, s_flag h 1 1 (by decide), ?_, pf_bit S 1, rfl, rfl⟩
        show (v >>> ((1 : Int32) &&& 31)) = ((v / (2 : Int32)) + (0 : Int32)) &&& (255 : Int32)
        rw [Int32.add_zero, half hv16, sr_8 hv]
    · by_cases a : (v &&& (1 : Int32)) = (0 : Int32)
      · have C : f_Prc_changed S 2 v 0 = ((v >>> ((1 : Int32) &&& 31)), f_Reg_putFlag S 1 0) := by
          rw [cc_2, if_pos a]
          rfl
        have M : f_Mdl_changed T 4 v 1 = f_Mdl_result (f_Mdl_flag T 1 0) ((v / (2 : Int32)) + (0 : Int32)) 1 := by
          rw [mc_4, if_neg (by decide : ¬ (1 : Int32) = 0), if_neg k, if_pos a]; rfl
        unfold SC; rw [C]
        refine ⟨_, _, M, s_flag h 1 0 (by decide), ?_, pf_bit S 0, rfl, rfl⟩
        show (v >>> ((1 : Int32) &&& 31)) = ((v / (2 : Int32)) + (0 : Int32)) &&& (255 : Int32)
        rw [Int32.add_zero, half hv16, sr_8 hv]
      · have C : f_Prc_changed S 2 v 0 = ((v >>> ((1 : Int32) &&& 31)), f_Reg_putFlag S 1 1) := by
          rw [cc_2, if_neg a]
          rfl
        have M : f_Mdl_changed T 4 v 1 = f_Mdl_result (f_Mdl_flag T 1 1) ((v / (2 : Int32)) + (0 : Int32)) 1 := by
          rw [mc_4, if_neg (by decide : ¬ (1 : Int32) = 0), if_neg k, if_neg a]; rfl
        unfold SC; rw [C]
        refine ⟨_, _, M, s_flag h 1 1 (by decide), ?_, pf_bit S 1, rfl, rfl⟩
        show (v >>> ((1 : Int32) &&& 31)) = ((v / (2 : Int32)) + (0 : Int32)) &&& (255 : Int32)
        rw [Int32.add_zero, half hv16, sr_8 hv]
theorem cc_3 (S : Sc) (x2 x3 : Int32) : f_Prc_changed S (3 : Int32) x2 x3 = if (x2 &&& (1 : Int32)) = (0 : Int32) then (bs (f_Reg_putFlag S (1 : Int32) (0 : Int32)) (fun S2 => if (f_Reg_has S (1 : Int32)) = (0 : Int32) then ((((x2 >>> ((1 : Int32) &&& 31)) ||| (0 : Int32)), S2)) else ((((x2 >>> ((1 : Int32) &&& 31)) ||| (f_Reg_signOf x3)), S2)))) else (bs (f_Reg_putFlag S (1 : Int32) (1 : Int32)) (fun S5 => if (f_Reg_has S (1 : Int32)) = (0 : Int32) then ((((x2 >>> ((1 : Int32) &&& 31)) ||| (0 : Int32)), S5)) else ((((x2 >>> ((1 : Int32) &&& 31)) ||| (f_Reg_signOf x3)), S5)))) := rfl
theorem mc_5 (T : Sc) (x2 x3 : Int32) : f_Mdl_changed T (5 : Int32) x2 x3 = if x3 = (0 : Int32) then (if (f_Mdl_is T (1 : Int32)) = (0 : Int32) then (if (x2 &&& (1 : Int32)) = (0 : Int32) then (bs (f_Mdl_flag T (1 : Int32) (0 : Int32)) (fun S4 => bn (f_Mdl_result S4 ((x2 / (2 : Int32)) + (0 : Int32)) x3) (fun r6 S7 => (r6, S7)))) else (bs (f_Mdl_flag T (1 : Int32) (1 : Int32)) (fun S9 => bn (f_Mdl_result S9 ((x2 / (2 : Int32)) + (0 : Int32)) x3) (fun r11 S12 => (r11, S12))))) else (if (x2 &&& (1 : Int32)) = (0 : Int32) then (bs (f_Mdl_flag T (1 : Int32) (0 : Int32)) (fun S15 => bn (f_Mdl_result S15 ((x2 / (2 : Int32)) + (32768 : Int32)) x3) (fun r17 S18 => (r17, S18)))) else (bs (f_Mdl_flag T (1 : Int32) (1 : Int32)) (fun S20 => bn (f_Mdl_result S20 ((x2 / (2 : Int32)) + (32768 : Int32)) x3) (fun r22 S23 => (r22, S23)))))) else (if (f_Mdl_is T (1 : Int32)) = (0 : Int32) then (if (x2 &&& (1 : Int32)) = (0 : Int32) then (bs (f_Mdl_flag T (1 : Int32) (0 : Int32)) (fun S27 => bn (f_Mdl_result S27 ((x2 / (2 : Int32)) + (0 : Int32)) x3) (fun r29 S30 => (r29, S30)))) else (bs (f_Mdl_flag T (1 : Int32) (1 : Int32)) (fun S32 => bn (f_Mdl_result S32 ((x2 / (2 : Int32)) + (0 : Int32)) x3) (fun r34 S35 => (r34, S35))))) else (if (x2 &&& (1 : Int32)) = (0 : Int32) then (bs (f_Mdl_flag T (1 : Int32) (0 : Int32)) (fun S38 => bn (f_Mdl_result S38 ((x2 / (2 : Int32)) + (128 : Int32)) x3) (fun r40 S41 => (r40, S41)))) else (bs (f_Mdl_flag T (1 : Int32) (1 : Int32)) (fun S43 => bn (f_Mdl_result S43 ((x2 / (2 : Int32)) + (128 : Int32)) x3) (fun r45 S46 => (r45, S46)))))) := rfl
theorem sc_3 {S T : Sc} {v w n : Int32} (h : RR S T) (hw : WN w n) (hv : v &&& f_Reg_maskOf w = v) : SC S T v w n 3 5 := by
  have hk := has_is h 1
  rcases hw with ⟨rfl, rfl⟩ | ⟨rfl, rfl⟩
  · have hv : v &&& (65535 : Int32) = v := hv
    have hv16 : r16 v := hv
    by_cases k : f_Mdl_is T 1 = (0 : Int32)
    · by_cases a : (v &&& (1 : Int32)) = (0 : Int32)
      · have C : f_Prc_changed S 3 v 1 = (((v >>> ((1 : Int32) &&& 31)) ||| (0 : Int32)), f_Reg_putFlag S 1 0) := by
          rw [cc_3, if_pos a]
          show (if f_Reg_has S 1 = (0 : Int32) then _ else _) = _
          rw [hk, if_pos k]
        have M : f_Mdl_changed T 5 v 0 = f_Mdl_result (f_Mdl_flag T 1 0) ((v / (2 : Int32)) + (0 : Int32)) 0 := by
          rw [mc_5, if_pos (rfl : (0 : Int32) = 0), if_pos k, if_pos a]; rfl
        unfold SC; rw [C]
        refine ⟨_, _, M, s_flag h 1 0 (by decide), ?_, pf_bit S 0, rfl, rfl⟩
        show ((v >>> ((1 : Int32) &&& 31)) ||| (0 : Int32)) = ((v / (2 : Int32)) + (0 : Int32)) &&& (65535 : Int32)
        rw [Int32.add_zero, half hv16, sr_16 hv, Int32.or_zero]
      · have C : f_Prc_changed S 3 v 1 = (((v >>> ((1 : Int32) &&& 31)) ||| (0 : Int32)), f_Reg_putFlag S 1 1) := by
          rw [cc_3, if_neg a]
          show (if f_Reg_has S 1 = (0 : Int32) then _ else _) = _
          rw [hk, if_pos k]
        have M : f_Mdl_changed T 5 v 0 = f_Mdl_result (f_Mdl_flag T 1 1) ((v / (2 : Int32)) + (0 : Int32)) 0 := by
          rw [mc_5, if_pos (rfl : (0 : Int32) = 0), if_pos k, if_neg a]; rfl
        unfold SC; rw [C]
        refine ⟨_, _, M, s_flag h 1 1 (by decide), ?_, pf_bit S 1, rfl, rfl⟩
        show ((v >>> ((1 : Int32) &&& 31)) ||| (0 : Int32)) = ((v / (2 : Int32)) + (0 : Int32)) &&& (65535 : Int32)
        rw [Int32.add_zero, half hv16, sr_16 hv, Int32.or_zero]
    · by_cases a : (v &&& (1 : Int32)) = (0 : Int32)
      · have C : f_Prc_changed S 3 v 1 = (((v >>> ((1 : Int32) &&& 31)) ||| f_Reg_signOf 1), f_Reg_putFlag S 1 0) := by
          rw [cc_3, if_pos a]
          show (if f_Reg_has S 1 = (0 : Int32) then _ else _) = _
          rw [hk, if_neg k]
        have M : f_Mdl_changed T 5 v 0 = f_Mdl_result (f_Mdl_flag T 1 0) ((v / (2 : Int32)) + (32768 : Int32)) 0 := by
          rw [mc_5, if_pos (rfl : (0 : Int32) = 0), if_neg k, if_pos a]; rfl
        unfold SC; rw [C]
        refine ⟨_, _, M, s_flag h 1 0 (by decide), ?_, pf_bit S 0, rfl, rfl⟩
        show ((v >>> ((1 : Int32) &&& 31)) ||| (32768 : Int32)) = ((v / (2 : Int32)) + (32768 : Int32)) &&& (65535 : Int32)
        rw [half hv16, sr_t16 hv, and_or_r, sr_16 hv]; rfl
      · have C : f_Prc_changed S 3 v 1 = (((v >>> ((1 : Int32) &&& 31)) ||| f_Reg_signOf 1), f_Reg_putFlag S 1 1) := by
          rw [cc_3, if_neg a]
          show (if f_Reg_has S 1 = (0 : Int32) then _ else _) = _
          rw [hk, if_neg k]
        have M : f_Mdl_changed T 5 v 0 = f_Mdl_result (f_Mdl_flag T 1 1) ((v / (2 : Int32)) + (32768 : Int32)) 0 := by
          rw [mc_5, if_pos (rfl : (0 : Int32) = 0), if_neg k, if_neg a]; rfl
        unfold SC; rw [C]
        refine ⟨_, _, M, s_flag h 1 1 (by decide), ?_, pf_bit S 1, rfl, rfl⟩
        show ((v >>> ((1 : Int32) &&& 31)) ||| (32768 : Int32)) = ((v / (2 : Int32)) + (32768 : Int32)) &&& (65535 : Int32)
        rw [half hv16, sr_t16 hv, and_or_r, sr_16 hv]; rfl
  · have hv : v &&& (255 : Int32) = v := hv
    have hv16 : r16 v := r8_16 hv
    by_cases k : f_Mdl_is T 1 = (0 : Int32)
    · by_cases a : (v &&& (1 : Int32)) = (0 : Int32)
      · have C : f_Prc_changed S 3 v 0 = (((v >>> ((1 : Int32) &&& 31)) ||| (0 : Int32)), f_Reg_putFlag S 1 0) := by
          rw [cc_3, if_pos a]
          show (if f_Reg_has S 1 = (0 : Int32) then _ else _) = _
          rw [hk, if_pos k]
        have M : f_Mdl_changed T 5 v 1 = f_Mdl_result (f_Mdl_flag T 1 0) ((v / (2 : Int32)) + (0 : Int32)) 1 := by
          rw [mc_5, if_neg (by decide : ¬ (1 : Int32) = 0), if_pos k, if_pos a]; rfl
        unfold SC; rw [C]
        refine ⟨_, _, M, s_flag h 1 0 (by decide), ?_, pf_bit S 0, rfl, rfl⟩
        show ((v >>> ((1 : Int32) &&& 31)) ||| (0 : Int32)) = ((v / (2 : Int32)) + (0 : Int32)) &&& (255 : Int32)
        rw [Int32.add_zero, half hv16, sr_8 hv, Int32.or_zero]
      · have C : f_Prc_changed S 3 v 0 = (((v >>> ((1 : Int32) &&& 31)) ||| (0 : Int32)), f_Reg_putFlag S 1 1) := by
          rw [cc_3, if_neg a]
          show (if f_Reg_has S 1 = (0 : Int32) then _ else _) = _
          rw [hk, if_pos k]
        have M : f_Mdl_changed T 5 v 1 = f_Mdl_result (f_Mdl_flag T 1 1) ((v / (2 : Int32)) + (0 : Int32)) 1 := by
          rw [mc_5, if_neg (by decide : ¬ (1 : Int32) = 0), if_pos k, if_neg a]; rfl
        unfold SC; rw [C]
        refine ⟨_, _, M, s_flag h 1 1 (by decide), ?_, pf_bit S 1, rfl, rfl⟩
        show ((v >>> ((1 : Int32) &&& 31)) ||| (0 : Int32)) = ((v / (2 : Int32)) + (0 : Int32)) &&& (255 : Int32)
        rw [Int32.add_zero, half hv16, sr_8 hv, Int32.or_zero]
    · by_cases a : (v &&& (1 : Int32)) = (0 : Int32)
      · have C : f_Prc_changed S 3 v 0 = (((v >>> ((1 : Int32) &&& 31)) ||| f_Reg_signOf 0), f_Reg_putFlag S 1 0) := by
          rw [cc_3, if_pos a]
          show (if f_Reg_has S 1 = (0 : Int32) then _ else _) = _
          rw [hk, if_neg k]
        have M : f_Mdl_changed T 5 v 1 = f_Mdl_result (f_Mdl_flag T 1 0) ((v / (2 : Int32)) + (128 : Int32)) 1 := by
          rw [mc_5, if_neg (by decide : ¬ (1 : Int32) = 0), if_neg k, if_pos a]; rfl
        unfold SC; rw [C]
        refine ⟨_, _, M, s_flag h 1 0 (by decide), ?_, pf_bit S 0, rfl, rfl⟩
        show ((v >>> ((1 : Int32) &&& 31)) ||| (128 : Int32)) = ((v / (2 : Int32)) + (128 : Int32)) &&& (255 : Int32)
        rw [half hv16, sr_t8 hv, and_or_r, sr_8 hv]; rfl
      · have C : f_Prc_changed S 3 v 0 = (((v >>> ((1 : Int32) &&& 31)) ||| f_Reg_signOf 0), f_Reg_putFlag S 1 1) := by
          rw [cc_3, if_neg a]
          show (if f_Reg_has S 1 = (0 : Int32) then _ else _) = _
          rw [hk, if_neg k]
        have M : f_Mdl_changed T 5 v 1 = f_Mdl_result (f_Mdl_flag T 1 1) ((v / (2 : Int32)) + (128 : Int32)) 1 := by
          rw [mc_5, if_neg (by decide : ¬ (1 : Int32) = 0), if_neg k, if_neg a]; rfl
        unfold SC; rw [C]
        refine ⟨_, _, M, s_flag h 1 1 (by decide), ?_, pf_bit S 1, rfl, rfl⟩
        show ((v >>> ((1 : Int32) &&& 31)) ||| (128 : Int32)) = ((v / (2 : Int32)) + (128 : Int32)) &&& (255 : Int32)
        rw [half hv16, sr_t8 hv, and_or_r, sr_8 hv]; rfl
theorem cc_6 (S : Sc) (x2 x3 : Int32) : f_Prc_changed S (6 : Int32) x2 x3 = (((x2 - (1 : Int32)) &&& (f_Reg_maskOf x3)), S) := rfl
theorem mc_1 (T : Sc) (x2 x3 : Int32) : f_Mdl_changed T (1 : Int32) x2 x3 = if x3 = (0 : Int32) then (if (f_Mdl_is T (1 : Int32)) = (0 : Int32) then (bn (f_Mdl_result T (x2 - (1 : Int32)) x3) (fun r3 S4 => (r3, S4))) else (bn (f_Mdl_result T (x2 - (1 : Int32)) x3) (fun r6 S7 => (r6, S7)))) else (if (f_Mdl_is T (1 : Int32)) = (0 : Int32) then (bn (f_Mdl_result T (x2 - (1 : Int32)) x3) (fun r10 S11 => (r10, S11))) else (bn (f_Mdl_result T (x2 - (1 : Int32)) x3) (fun r13 S14 => (r13, S14)))) := rfl
theorem sc_6 {S T : Sc} {v w n : Int32} (h : RR S T) (hw : WN w n) (hv : v &&& f_Reg_maskOf w = v) : SC S T v w n 6 1 := by
  have hk := has_is h 1
  rcases hw with ⟨rfl, rfl⟩ | ⟨rfl, rfl⟩
  · have hv : v &&& (65535 : Int32) = v := hv
    have hv16 : r16 v := hv
    by_cases k : f_Mdl_is T 1 = (0 : Int32)
    · have M : f_Mdl_changed T 1 v 0 = f_Mdl_result T (v - 1) 0 := by
        rw [mc_1, if_pos (rfl : (0 : Int32) = 0), if_pos k]; rfl
      exact ⟨_, _, M, h, rfl, rfl, rfl, rfl⟩
    · have M : f_Mdl_changed T 1 v 0 = f_Mdl_result T (v - 1) 0 := by
        rw [mc_1, if_pos (rfl : (0 : Int32) = 0), if_neg k]; rfl
      exact ⟨_, _, M, h, rfl, rfl, rfl, rfl⟩
  · have hv : v &&& (255 : Int32) = v := hv
    have hv16 : r16 v := r8_16 hv
    by_cases k : f_Mdl_is T 1 = (0 : Int32)
    · have M : f_Mdl_changed T 1 v 1 = f_Mdl_result T (v - 1) 1 := by
        rw [mc_1, if_neg (by decide : ¬ (1 : Int32) = 0), if_pos k]; rfl
      exact ⟨_, _, M, h, rfl, rfl, rfl, rfl⟩
    · have M : f_Mdl_changed T 1 v 1 = f_Mdl_result T (v - 1) 1 := by
        rw [mc_1, if_neg (by decide : ¬ (1 : Int32) = 0), if_neg k]; rfl
      exact ⟨_, _, M, h, rfl, rfl, rfl, rfl⟩
theorem cc_7 (S : Sc) (x2 x3 : Int32) : f_Prc_changed S (7 : Int32) x2 x3 = (((x2 + (1 : Int32)) &&& (f_Reg_maskOf x3)), S) := rfl
theorem mc_0 (T : Sc) (x2 x3 : Int32) : f_Mdl_changed T (0 : Int32) x2 x3 = if x3 = (0 : Int32) then (if (f_Mdl_is T (1 : Int32)) = (0 : Int32) then (bn (f_Mdl_result T (x2 + (1 : Int32)) x3) (fun r3 S4 => (r3, S4))) else (bn (f_Mdl_result T (x2 + (1 : Int32)) x3) (fun r6 S7 => (r6, S7)))) else (if (f_Mdl_is T (1 : Int32)) = (0 : Int32) then (bn (f_Mdl_result T (x2 + (1 : Int32)) x3) (fun r10 S11 => (r10, S11))) else (bn (f_Mdl_result T (x2 + (1 : Int32)) x3) (fun r13 S14 => (r13, S14)))) := rfl
theorem sc_7 {S T : Sc} {v w n : Int32} (h : RR S T) (hw : WN w n) (hv : v &&& f_Reg_maskOf w = v) : SC S T v w n 7 0 := by
  have hk := has_is h 1
  rcases hw with ⟨rfl, rfl⟩ | ⟨rfl, rfl⟩
  · have hv : v &&& (65535 : Int32) = v := hv
    have hv16 : r16 v := hv
    by_cases k : f_Mdl_is T 1 = (0 : Int32)
    · have M : f_Mdl_changed T 0 v 0 = f_Mdl_result T (v + 1) 0 := by
        rw [mc_0, if_pos (rfl : (0 : Int32) = 0), if_pos k]; rfl
      exact ⟨_, _, M, h, rfl, rfl, rfl, rfl⟩
    · have M : f_Mdl_changed T 0 v 0 = f_Mdl_result T (v + 1) 0 := by
        rw [mc_0, if_pos (rfl : (0 : Int32) = 0), if_neg k]; rfl
      exact ⟨_, _, M, h, rfl, rfl, rfl, rfl⟩
  · have hv : v &&& (255 : Int32) = v := hv
    have hv16 : r16 v := r8_16 hv
    by_cases k : f_Mdl_is T 1 = (0 : Int32)
    · have M : f_Mdl_changed T 0 v 1 = f_Mdl_result T (v + 1) 1 := by
        rw [mc_0, if_neg (by decide : ¬ (1 : Int32) = 0), if_pos k]; rfl
      exact ⟨_, _, M, h, rfl, rfl, rfl, rfl⟩
    · have M : f_Mdl_changed T 0 v 1 = f_Mdl_result T (v + 1) 1 := by
        rw [mc_0, if_neg (by decide : ¬ (1 : Int32) = 0), if_neg k]; rfl
      exact ⟨_, _, M, h, rfl, rfl, rfl, rfl⟩
theorem vk_00 : ∀ k, k < 256 → ((nI k &&& ((64 : Int32) ^^^ (-1 : Int32))) &&& ((1 : Int32) ^^^ (-1 : Int32))) = ((nI k &&& ((1 : Int32) ^^^ (-1 : Int32))) &&& ((64 : Int32) ^^^ (-1 : Int32))) := by decide +kernel
theorem fvk_00 {S T : Sc} (h : RR S T) : RR (f_Reg_putFlag (f_Reg_putFlag S 64 0) 1 0) (f_Mdl_flag (f_Mdl_flag T 1 0) 64 0) := by
  obtain ⟨k, hk, ep⟩ := r8_nI (RRr_8 h)
  have e := RRe_8 h
  show RR (pr (pr S 8 _) 8 ((S.1 8 &&& ((64 : Int32) ^^^ (-1 : Int32))) &&& ((1 : Int32) ^^^ (-1 : Int32)))) (pr (pr T 6 _) 6 ((T.1 6 &&& ((1 : Int32) ^^^ (-1 : Int32))) &&& ((64 : Int32) ^^^ (-1 : Int32))))
  rw [pr_pr, pr_pr]
  refine R_8 h (by rw [← e, ep]; exact vk_00 k hk) ?_
  exact RRr_8 (s_flag (s_flag h 64 0 (by decide)) 1 0 (by decide))
theorem vk_01 : ∀ k, k < 256 → ((nI k &&& ((64 : Int32) ^^^ (-1 : Int32))) ||| (1 : Int32)) = ((nI k ||| (1 : Int32)) &&& ((64 : Int32) ^^^ (-1 : Int32))) := by decide +kernel
theorem fvk_01 {S T : Sc} (h : RR S T) : RR (f_Reg_putFlag (f_Reg_putFlag S 64 0) 1 1) (f_Mdl_flag (f_Mdl_flag T 1 1) 64 0) := by
  obtain ⟨k, hk, ep⟩ := r8_nI (RRr_8 h)
  have e := RRe_8 h
  show RR (pr (pr S 8 _) 8 ((S.1 8 &&& ((64 : Int32) ^^^ (-1 : Int32))) ||| (1 : Int32))) (pr (pr T 6 _) 6 ((T.1 6 ||| (1 : Int32)) &&& ((64 : Int32) ^^^ (-1 : Int32))))
  rw [pr_pr, pr_pr]
  refine R_8 h (by rw [← e, ep]; exact vk_01 k hk) ?_
  exact RRr_8 (s_flag (s_flag h 64 0 (by decide)) 1 1 (by decide))
theorem vk_10 : ∀ k, k < 256 → ((nI k ||| (64 : Int32)) &&& ((1 : Int32) ^^^ (-1 : Int32))) = ((nI k &&& ((1 : Int32) ^^^ (-1 : Int32))) ||| (64 : Int32)) := by decide +kernel
theorem fvk_10 {S T : Sc} (h : RR S T) : RR (f_Reg_putFlag (f_Reg_putFlag S 64 1) 1 0) (f_Mdl_flag (f_Mdl_flag T 1 0) 64 1) := by
  obtain ⟨k, hk, ep⟩ := r8_nI (RRr_8 h)
  have e := RRe_8 h
  show RR (pr (pr S 8 _) 8 ((S.1 8 ||| (64 : Int32)) &&& ((1 : Int32) ^^^ (-1 : Int32)))) (pr (pr T 6 _) 6 ((T.1 6 &&& ((1 : Int32) ^^^ (-1 : Int32))) ||| (64 : Int32)))
  rw [pr_pr, pr_pr]
  refine R_8 h (by rw [← e, ep]; exact vk_10 k hk) ?_
  exact RRr_8 (s_flag (s_flag h 64 1 (by decide)) 1 0 (by decide))
theorem vk_11 : ∀ k, k < 256 → ((nI k ||| (64 : Int32)) ||| (1 : Int32)) = ((nI k ||| (1 : Int32)) ||| (64 : Int32)) := by decide +kernel
theorem fvk_11 {S T : Sc} (h : RR S T) : RR (f_Reg_putFlag (f_Reg_putFlag S 64 1) 1 1) (f_Mdl_flag (f_Mdl_flag T 1 1) 64 1) := by
  obtain ⟨k, hk, ep⟩ := r8_nI (RRr_8 h)
  have e := RRe_8 h
  show RR (pr (pr S 8 _) 8 ((S.1 8 ||| (64 : Int32)) ||| (1 : Int32))) (pr (pr T 6 _) 6 ((T.1 6 ||| (1 : Int32)) ||| (64 : Int32)))
  rw [pr_pr, pr_pr]
  refine R_8 h (by rw [← e, ep]; exact vk_11 k hk) ?_
  exact RRr_8 (s_flag (s_flag h 64 1 (by decide)) 1 1 (by decide))
theorem s_add {S T : Sc} {v : Int32} (h : RR S T) : RR (f_Prc_addToA S v) (f_Mdl_add T v) := by
  have ea := acc_eq h
  have ek := carry h
  have hw0 := WN_A h
  unfold f_Prc_addToA f_Mdl_add
  rw [ea, vflag]
  generalize ha : f_Mdl_accumulator T = A
  by_cases k : f_Mdl_is T 1 = (0 : Int32)
  · rw [if_pos k, ek.1 k]
    generalize hs : ((A + v) + (0 : Int32)) = s
    rcases hw0 with ⟨w1, n1⟩ | ⟨w1, n1⟩
    · rw [w1, n1, if_pos (rfl : (0 : Int32) = 0), show f_Reg_signOf 1 = (32768 : Int32) from rfl, show f_Reg_maskOf 1 = (65535 : Int32) from rfl]
      by_cases c : s ≤ (65535 : Int32)
      · rw [if_pos c]
        by_cases z : (((A ^^^ s) &&& (v ^^^ s)) &&& (32768 : Int32)) = (0 : Int32)
        · rw [if_pos z]
          show RR (if s ≤ (65535 : Int32) then _ else _) (if (((A ^^^ s) &&& (v ^^^ s)) &&& (32768 : Int32)) = (0 : Int32) then _ else _)
          rw [if_pos c, if_pos z]
          refine s_setA (fvk_00 h) ?_
          have q := WN_b (S2 := f_Reg_putFlag (f_Reg_putFlag S 64 0) 1 0) h ((pf_bit _ _).trans (pf_bit2 _ _))
          rw [n1] at q
          exact q
        · rw [if_neg z]
          show RR (if s ≤ (65535 : Int32) then _ else _) (if (((A ^^^ s) &&& (v ^^^ s)) &&& (32768 : Int32)) = (0 : Int32) then _ else _)
          rw [if_pos c, if_neg z]
          refine s_setA (fvk_10 h) ?_
          have q := WN_b (S2 := f_Reg_putFlag (f_Reg_putFlag S 64 1) 1 0) h ((pf_bit _ _).trans (pf_bit2 _ _))
          rw [n1] at q
          exact q
      · rw [if_neg c]
        by_cases z : (((A ^^^ s) &&& (v ^^^ s)) &&& (32768 : Int32)) = (0 : Int32)
        · rw [if_pos z]
          show RR (if s ≤ (65535 : Int32) then _ else _) (if (((A ^^^ s) &&& (v ^^^ s)) &&& (32768 : Int32)) = (0 : Int32) then _ else _)
          rw [if_neg c, if_pos z]
          refine s_setA (fvk_01 h) ?_
          have q := WN_b (S2 := f_Reg_putFlag (f_Reg_putFlag S 64 0) 1 1) h ((pf_bit _ _).trans (pf_bit2 _ _))
          rw [n1] at q
          exact q
        · rw [if_neg z]
          show RR (if s ≤ (65535 : Int32) then _ else _) (if (((A ^^^ s) &&& (v ^^^ s)) &&& (32768 : Int32)) = (0 : Int32) then _ else _)
          rw [if_neg c, if_neg z]
          refine s_setA (fvk_11 h) ?_
          have q := WN_b (S2 := f_Reg_putFlag (f_Reg_putFlag S 64 1) 1 1) h ((pf_bit _ _).trans (pf_bit2 _ _))
          rw [n1] at q
          exact q
    · rw [w1, n1, if_neg (by decide : ¬ (1 : Int32) = 0), show f_Reg_signOf 0 = (128 : Int32) from rfl, show f_Reg_maskOf 0 = (255 : Int32) from rfl]
      by_cases c : s ≤ (255 : Int32)
      · rw [if_pos c]
        by_cases z : (((A ^^^ s) &&& (v ^^^ s)) &&& (128 : Int32)) = (0 : Int32)
        · rw [if_pos z]
          show RR (if s ≤ (255 : Int32) then _ else _) (if (((A ^^^ s) &&& (v ^^^ s)) &&& (128 : Int32)) = (0 : Int32) then _ else _)
          rw [if_pos c, if_pos z]
          refine s_setA (fvk_00 h) ?_
          have q := WN_b (S2 := f_Reg_putFlag (f_Reg_putFlag S 64 0) 1 0) h ((pf_bit _ _).trans (pf_bit2 _ _))
          rw [n1] at q
          exact q
        · rw [if_neg z]
          show RR (if s ≤ (255 : Int32) then _ else _) (if (((A ^^^ s) &&& (v ^^^ s)) &&& (128 : Int32)) = (0 : Int32) then _ else _)
          rw [if_pos c, if_neg z]
          refine s_setA (fvk_10 h) ?_
          have q := WN_b (S2 := f_Reg_putFlag (f_Reg_putFlag S 64 1) 1 0) h ((pf_bit _ _).trans (pf_bit2 _ _))
          rw [n1] at q
          exact q
      · rw [if_neg c]
        by_cases z : (((A ^^^ s) &&& (v ^^^ s)) &&& (128 : Int32)) = (0 : Int32)
        · rw [if_pos z]
          show RR (if s ≤ (255 : Int32) then _ else _) (if (((A ^^^ s) &&& (v ^^^ s)) &&& (128 : Int32)) = (0 : Int32) then _ else _)
          rw [if_neg c, if_pos z]
          refine s_setA (fvk_01 h) ?_
          have q := WN_b (S2 := f_Reg_putFlag (f_Reg_putFlag S 64 0) 1 1) h ((pf_bit _ _).trans (pf_bit2 _ _))
          rw [n1] at q
          exact q
        · rw [if_neg z]
          show RR (if s ≤ (255 : Int32) then _ else _) (if (((A ^^^ s) &&& (v ^^^ s)) &&& (128 : Int32)) = (0 : Int32) then _ else _)
          rw [if_neg c, if_neg z]
          refine s_setA (fvk_11 h) ?_
          have q := WN_b (S2 := f_Reg_putFlag (f_Reg_putFlag S 64 1) 1 1) h ((pf_bit _ _).trans (pf_bit2 _ _))
          rw [n1] at q
          exact q
  · rw [if_neg k, ek.2 k]
    generalize hs : ((A + v) + (1 : Int32)) = s
    rcases hw0 with ⟨w1, n1⟩ | ⟨w1, n1⟩
    · rw [w1, n1, if_pos (rfl : (0 : Int32) = 0), show f_Reg_signOf 1 = (32768 : Int32) from rfl, show f_Reg_maskOf 1 = (65535 : Int32) from rfl]
      by_cases c : s ≤ (65535 : Int32)
      · rw [if_pos c]
        by_cases z : (((A ^^^ s) &&& (v ^^^ s)) &&& (32768 : Int32)) = (0 : Int32)
        · rw [if_pos z]
          show RR (if s ≤ (65535 : Int32) then _ else _) (if (((A ^^^ s) &&& (v ^^^ s)) &&& (32768 : Int32)) = (0 : Int32) then _ else _)
          rw [if_pos c, if_pos z]
          refine s_setA (fvk_00 h) ?_
          have q := WN_b (S2 := f_Reg_putFlag (f_Reg_putFlag S 64 0) 1 0) h ((pf_bit _ _).trans (pf_bit2 _ _))
          rw [n1] at q
          exact q
        · rw [if_neg z]
          show RR (if s ≤ (65535 : Int32) then _ else _) (if (((A ^^^ s) &&& (v ^^^ s)) &&& (32768 : Int32)) = (0 : Int32) then _ else _)
          rw [if_pos c, if_neg z]
          refine s_setA (fvk_10 h) ?_
          have q := WN_b (S2 := f_Reg_putFlag (f_Reg_putFlag S 64 1) 1 0) h ((pf_bit _ _).trans (pf_bit2 _ _))
          rw [n1] at q
          exact q
      · rw [if_neg c]
        by_cases z : (((A ^^^ s) &&& (v ^^^ s)) &&& (32768 : Int32)) = (0 : Int32)
        · rw [if_pos z]
          show RR (if s ≤ (65535 : Int32) then _ else _) (if (((A ^^^ s) &&& (v ^^^ s)) &&& (32768 : Int32)) = (0 : Int32) then _ else _)
          rw [if_neg c, if_pos z]
          refine s_setA (fvk_01 h) ?_
          have q := WN_b (S2 := f_Reg_putFlag (f_Reg_putFlag S 64 0) 1 1) h ((pf_bit _ _).trans (pf_bit2 _ _))
          rw [n1] at q
          exact q
        · rw [if_neg z]
          show RR (if s ≤ (65535 : Int32) then _ else _) (if (((A ^^^ s) &&& (v ^^^ s)) &&& (32768 : Int32)) = (0 : Int32) then _ else _)
          rw [if_neg c, if_neg z]
          refine s_setA (fvk_11 h) ?_
          have q := WN_b (S2 := f_Reg_putFlag (f_Reg_putFlag S 64 1) 1 1) h ((pf_bit _ _).trans (pf_bit2 _ _))
          rw [n1] at q
          exact q
    · rw [w1, n1, if_neg (by decide : ¬ (1 : Int32) = 0), show f_Reg_signOf 0 = (128 : Int32) from rfl, show f_Reg_maskOf 0 = (255 : Int32) from rfl]
      by_cases c : s ≤ (255 : Int32)
      · rw [if_pos c]
        by_cases z : (((A ^^^ s) &&& (v ^^^ s)) &&& (128 : Int32)) = (0 : Int32)
        · rw [if_pos z]
          show RR (if s ≤ (255 : Int32) then _ else _) (if (((A ^^^ s) &&& (v ^^^ s)) &&& (128 : Int32)) = (0 : Int32) then _ else _)
          rw [if_pos c, if_pos z]
          refine s_setA (fvk_00 h) ?_
          have q := WN_b (S2 := f_Reg_putFlag (f_Reg_putFlag S 64 0) 1 0) h ((pf_bit _ _).trans (pf_bit2 _ _))
          rw [n1] at q
          exact q
        · rw [if_neg z]
          show RR (if s ≤ (255 : Int32) then _ else _) (if (((A ^^^ s) &&& (v ^^^ s)) &&& (128 : Int32)) = (0 : Int32) then _ else _)
          rw [if_pos c, if_neg z]
          refine s_setA (fvk_10 h) ?_
          have q := WN_b (S2 := f_Reg_putFlag (f_Reg_putFlag S 64 1) 1 0) h ((pf_bit _ _).trans (pf_bit2 _ _))
          rw [n1] at q
          exact q
      · rw [if_neg c]
        by_cases z : (((A ^^^ s) &&& (v ^^^ s)) &&& (128 : Int32)) = (0 : Int32)
        · rw [if_pos z]
          show RR (if s ≤ (255 : Int32) then _ else _) (if (((A ^^^ s) &&& (v ^^^ s)) &&& (128 : Int32)) = (0 : Int32) then _ else _)
          rw [if_neg c, if_pos z]
          refine s_setA (fvk_01 h) ?_
          have q := WN_b (S2 := f_Reg_putFlag (f_Reg_putFlag S 64 0) 1 1) h ((pf_bit _ _).trans (pf_bit2 _ _))
          rw [n1] at q
          exact q
        · rw [if_neg z]
          show RR (if s ≤ (255 : Int32) then _ else _) (if (((A ^^^ s) &&& (v ^^^ s)) &&& (128 : Int32)) = (0 : Int32) then _ else _)
          rw [if_neg c, if_neg z]
          refine s_setA (fvk_11 h) ?_
          have q := WN_b (S2 := f_Reg_putFlag (f_Reg_putFlag S 64 1) 1 1) h ((pf_bit _ _).trans (pf_bit2 _ _))
          rw [n1] at q
          exact q
end
section
def KO (A B : Int32 × Sc) : Prop := A.1 = 1 ∧ B.1 = 1 ∧ RR A.2 B.2
theorem s_pushW2 {S T : Sc} {v v2 : Int32} (h : RR S T) (e : v = v2) : RR (f_Stk_pushWord S v) (f_Mdl_pushWord T v2) := by subst e; exact s_pushW h
theorem bs_id (x : Sc) : bs x (fun S => S) = x := rfl
theorem pv1 (S : Sc) (v : Int32) : f_Stk_pushValue S v 1 = f_Stk_pushWord S v := by
  unfold f_Stk_pushValue f_Stk_pushWord
  rw [if_neg (by decide : ¬ (1 : Int32) = 0)]
theorem pv0 (S : Sc) (v : Int32) : f_Stk_pushValue S v 0 = f_Stk_pushByte S v := by
  unfold f_Stk_pushValue
  rw [if_pos (rfl : (0 : Int32) = 0), bs_id]
theorem po1 (T : Sc) (v : Int32) : f_Mdl_pushOf T v 1 = f_Mdl_push T v := by
  unfold f_Mdl_pushOf
  rw [if_neg (by decide : ¬ (1 : Int32) = 0), bs_id]
theorem po0 (T : Sc) (v : Int32) : f_Mdl_pushOf T v 0 = f_Mdl_pushWord T v := by
  unfold f_Mdl_pushOf
  rw [if_pos (rfl : (0 : Int32) = 0), bs_id]
theorem s_pushV {S T : Sc} {v v2 w n : Int32} (h : RR S T) (hw : WN w n) (e : n = 0 → v = v2) (e2 : v &&& 255 = v2 &&& 255) : RR (f_Stk_pushValue S v w) (f_Mdl_pushOf T v2 n) := by
  rcases hw with ⟨rfl, rfl⟩ | ⟨rfl, rfl⟩
  · rw [pv1, po0]; exact s_pushW2 h (e rfl)
  · rw [pv0, po1]; exact s_push h e2
theorem bn_id (x : Int32 × Sc) : bn x (fun r S => (r, S)) = x := rfl
theorem pw1 (S : Sc) : f_Stk_pullValue S 1 = f_Stk_pullWord S := by
  unfold f_Stk_pullValue
  rw [if_neg (by decide : ¬ (1 : Int32) = 0), bn_id]
theorem pw0 (S : Sc) : f_Stk_pullValue S 0 = f_Stk_pullByte S := by
  unfold f_Stk_pullValue
  rw [if_pos (rfl : (0 : Int32) = 0), bn_id]
theorem pf1 (T : Sc) : f_Mdl_pullOf T 1 = f_Mdl_result (f_Mdl_pull T).2 (f_Mdl_pull T).1 1 := rfl
theorem pf0 (T : Sc) : f_Mdl_pullOf T 0 = f_Mdl_result (f_Mdl_pullWord T).2 (f_Mdl_pullWord T).1 0 := rfl
theorem cpw_8 (S : Sc) : (f_Stk_pullWord S).2.1 8 = S.1 8 := rfl
theorem cpb_8 (S : Sc) : (f_Stk_pullByte S).2.1 8 = S.1 8 := rfl
theorem s_pv {S T : Sc} {w n : Int32} (h : RR S T) (hw : WN w n) : ∃ (r : Int32) (T2 : Sc), f_Mdl_pullOf T n = f_Mdl_result T2 r n ∧ (f_Stk_pullValue S w).1 = r ∧ RR (f_Stk_pullValue S w).2 T2 ∧ (f_Stk_pullValue S w).2.1 8 = S.1 8 := by
  rcases hw with ⟨rfl, rfl⟩ | ⟨rfl, rfl⟩
  · rw [pw1]; exact ⟨_, _, pf0 T, (s_pullW h).1, (s_pullW h).2.2, cpw_8 S⟩
  · rw [pw0]; exact ⟨_, _, pf1 T, (s_pull h).1, (s_pull h).2.2, cpb_8 S⟩
theorem mask_r16 {S : Sc} (x : Int32) : r16 (x &&& f_Reg_indexMask S) := by
  show r16 (x &&& f_Reg_maskOf (f_Reg_wideIndex S))
  unfold f_Reg_maskOf
  split
  · exact r8_16 (m8 x)
  · exact m16 x
theorem s_setP {S T : Sc} {v v2 : Int32} (h : RR S T) (e : v = v2 &&& 255) : RR (f_Reg_replaceP S v) (f_Mdl_setFlags T v2) := by
  subst e
  have h1 : RR (pr S 8 (v2 &&& 255)) (pr T 6 (v2 &&& 255)) := R_8 h rfl (m8 v2)
  have hw := WN_I h1
  unfold f_Mdl_setFlags
  show RR (pr (pr (pr S 8 (v2 &&& 255)) 1 (S.1 1 &&& f_Reg_maskOf (f_Reg_wideIndex (pr S 8 (v2 &&& 255))))) 2 (S.1 2 &&& f_Reg_maskOf (f_Reg_wideIndex (pr S 8 (v2 &&& 255))))) _
  generalize f_Reg_wideIndex (pr S 8 (v2 &&& 255)) = w at hw ⊢
  generalize f_Mdl_is (pr T 6 (v2 &&& 255)) 16 = n at hw ⊢
  have g1 := RRr_1 h
  have g2 := RRr_2 h
  have e1 := RRe_1 h
  have e2 := RRe_2 h
  rcases hw with ⟨rfl, rfl⟩ | ⟨rfl, rfl⟩
  · rw [if_pos (rfl : (0 : Int32) = 0)]
    show RR (pr (pr (pr S 8 (v2 &&& 255)) 1 (S.1 1 &&& 65535)) 2 (S.1 2 &&& 65535)) _
    obtain ⟨⟨a0, a1, a2, a3, a4, a5, a6, a7, a8, a9, a10, a11, a12, a13⟩, ⟨b0, b1, b2, b3⟩, hm, hl⟩ := h1
    exact ⟨⟨a0, g1.trans e1, g2.trans e2, a3, a4, a5, a6, a7, a8, a9, a10, a11, a12, a13⟩, ⟨b0, m16 _, m16 _, b3⟩, hm, hl⟩
  · rw [if_neg (by decide : ¬ (1 : Int32) = 0)]
    exact R_2 (R_1 h1 (by show S.1 1 &&& 255 = T.1 1 &&& 255; rw [e1]) (r8_16 (m8 _))) (by show S.1 2 &&& 255 = T.1 2 &&& 255; rw [e2]) (r8_16 (m8 _))
theorem s_jump {S T : Sc} {v v2 : Int32} (h : RR S T) (e : v &&& 65535 = v2) : RR (f_Reg_jumpTo S v) (pr T 8 v2) := R_7 h e (m16 v)
theorem R_78 {S T : Sc} {v v2 x x2 : Int32} (h : RR S T) (e : v = v2) (g : r8 v) (e2 : x = x2) (g2 : r16 x) : RR (pr (pr S 6 v) 7 x) (pr (pr T 7 v2) 8 x2) := R_7 (R_6 h e g) e2 g2
theorem R_87 {S T : Sc} {v v2 x x2 : Int32} (h : RR S T) (e : v = v2) (g : r8 v) (e2 : x = x2) (g2 : r16 x) : RR (pr (pr S 6 v) 7 x) (pr (pr T 8 x2) 7 v2) := R_6 (R_7 h e2 g2) e g
theorem ei_eq (S : Sc) (x1 : Int32) : f_Prc_enterInterrupt S x1 = pr (f_Bus_readWord (pr (f_Reg_putFlag (f_Reg_putFlag (f_Stk_pushByte (f_Stk_pushWord (f_Stk_pushByte S (S.1 6)) ((f_Stk_pushByte S (S.1 6)).1 7)) ((f_Stk_pushWord (f_Stk_pushByte S (S.1 6)) ((f_Stk_pushByte S (S.1 6)).1 7)).1 8)) (4 : Int32) (1 : Int32)) (8 : Int32) (0 : Int32)) 6 ((0 : Int32))) (f_Bus_bank0Place x1)).2 7 ((f_Bus_readWord (pr (f_Reg_putFlag (f_Reg_putFlag (f_Stk_pushByte (f_Stk_pushWord (f_Stk_pushByte S (S.1 6)) ((f_Stk_pushByte S (S.1 6)).1 7)) ((f_Stk_pushWord (f_Stk_pushByte S (S.1 6)) ((f_Stk_pushByte S (S.1 6)).1 7)).1 8)) (4 : Int32) (1 : Int32)) (8 : Int32) (0 : Int32)) 6 ((0 : Int32))) (f_Bus_bank0Place x1)).1) := rfl
theorem if_eq (T : Sc) (x1 : Int32) : f_Mdl_interruptFrom T x1 = pr (f_Mdl_readWord (pr (f_Mdl_flag (f_Mdl_flag (f_Mdl_push (f_Mdl_pushWord (f_Mdl_push T (T.1 7)) ((f_Mdl_push T (T.1 7)).1 8)) ((f_Mdl_pushWord (f_Mdl_push T (T.1 7)) ((f_Mdl_push T (T.1 7)).1 8)).1 6)) (4 : Int32) (1 : Int32)) (8 : Int32) (0 : Int32)) 7 ((0 : Int32))) x1 (1 : Int32)).2 8 ((f_Mdl_readWord (pr (f_Mdl_flag (f_Mdl_flag (f_Mdl_push (f_Mdl_pushWord (f_Mdl_push T (T.1 7)) ((f_Mdl_push T (T.1 7)).1 8)) ((f_Mdl_pushWord (f_Mdl_push T (T.1 7)) ((f_Mdl_push T (T.1 7)).1 8)).1 6)) (4 : Int32) (1 : Int32)) (8 : Int32) (0 : Int32)) 7 ((0 : Int32))) x1 (1 : Int32)).1) := rfl
theorem s_int {S T : Sc} {v : Int32} (h : RR S T) (g : r16 v) : RR (f_Prc_enterInterrupt S v) (f_Mdl_interruptFrom T v) := by
  have h1 := s_push (b := S.1 6) (b2 := T.1 7) h (by rw [RRe_6 h])
  have h2 := s_pushW2 h1 (RRe_7 h1)
  have h3 := s_push (b := (f_Stk_pushWord (f_Stk_pushByte S (S.1 6)) ((f_Stk_pushByte S (S.1 6)).1 7)).1 8) (b2 := (f_Mdl_pushWord (f_Mdl_push T (T.1 7)) ((f_Mdl_push T (T.1 7)).1 8)).1 6) h2 (by rw [RRe_8 h2])
  have h4 := s_flag h3 4 1 (by decide)
  have h5 := s_flag h4 8 0 (by decide)
  have h6 := R_6 (v := 0) (v2 := 0) h5 rfl (by decide)
  obtain ⟨a1, a2, a3⟩ := s_rw h6 (PR_near g)
  rw [ei_eq, if_eq]
  exact R_7 a3 a1 a2
theorem sx_k : ∀ k, k < 256 → (nI k ≤ 127 → (nI k).toInt8.toInt32 = nI k) ∧ (¬ nI k ≤ 127 → (nI k).toInt8.toInt32 = nI k - 256) := by decide +kernel
theorem br_eq (T : Sc) (x1 : Int32) : f_Mdl_branch T x1 = if (f_Mdl_next T).1 ≤ (127 : Int32) then (if x1 = (0 : Int32) then ((pr (f_Mdl_next T).2 8 ((f_Mdl_next T).2.1 8))) else ((pr (f_Mdl_next T).2 8 (((((f_Mdl_next T).2.1 8) + (f_Mdl_next T).1) &&& (65535 : Int32)))))) else (if x1 = (0 : Int32) then ((pr (f_Mdl_next T).2 8 ((f_Mdl_next T).2.1 8))) else ((pr (f_Mdl_next T).2 8 (((((f_Mdl_next T).2.1 8) + ((f_Mdl_next T).1 - (256 : Int32))) &&& (65535 : Int32)))))) := rfl
theorem s_br {S T : Sc} {x : Int32} (h : RR S T) : (¬ x = 0 → RR (f_Reg_jumpTo (f_Opd_nextByte S).2 ((f_Opd_nextByte S).2.1 7 + (f_Opd_nextByte S).1.toInt8.toInt32)) (f_Mdl_branch T x)) ∧ (x = 0 → RR (f_Opd_nextByte S).2 (f_Mdl_branch T x)) := by
  obtain ⟨a1, a2, a3⟩ := s_next h
  obtain ⟨k, hk, ek⟩ := r8_nI a2
  have sx := sx_k k hk
  have e7 := RRe_7 a3
  have g7 := RRr_7 a3
  rw [br_eq, ← a1]
  constructor
  · intro z
    by_cases q : (f_Opd_nextByte S).1 ≤ (127 : Int32)
    · rw [if_pos q, if_neg z]
      refine s_jump a3 ?_
      rw [ek] at q ⊢
      rw [sx.1 q, e7]
    · rw [if_neg q, if_neg z]
      refine s_jump a3 ?_
      rw [ek] at q ⊢
      rw [sx.2 q, e7]
  · intro z
    have hp : RR (f_Opd_nextByte S).2 (pr (f_Mdl_next T).2 8 ((f_Mdl_next T).2.1 8)) := by
      obtain ⟨e, g, hm, hl⟩ := a3
      exact ⟨e, g, hm, hl⟩
    by_cases q : (f_Opd_nextByte S).1 ≤ (127 : Int32)
    · rw [if_pos q, if_pos z]; exact hp
    · rw [if_neg q, if_pos z]; exact hp
theorem xba {c : Int32} (h : r16 c) : r16 ((c >>> ((8 : Int32) &&& 31)) ||| ((c &&& 255) <<< ((8 : Int32) &&& 31))) := bt_r16 fun i hi z => by
  rw [b_or, b_sshr8 c hi, b_shl8 _ hi, b_and, b_255, decide_eq_false (by omega : ¬ i - 8 < 8), Bool.and_false, Bool.and_false, Bool.or_false]
  split
  · exact r16_bt h (by omega)
  · exact r16_bt h (by omega)
theorem has_n {S T : Sc} (h : RR S T) (f : Int32) : f_Reg_has (f_Opd_nextByte S).2 f = f_Mdl_is T f := has_is (S := S) h f
def mvA (S : Sc) : Sc := f_Bus_writeByte (f_Bus_readByte (pr (f_Opd_nextByte (f_Opd_nextByte S).2).2 5 ((f_Opd_nextByte S).1)) (((f_Opd_nextByte (f_Opd_nextByte S).2).1 <<< ((16 : Int32) &&& 31)) ||| ((f_Opd_nextByte (f_Opd_nextByte S).2).2.1 1))).2 (((f_Opd_nextByte S).1 <<< ((16 : Int32) &&& 31)) ||| ((f_Opd_nextByte (f_Opd_nextByte S).2).2.1 2)) (f_Bus_readByte (pr (f_Opd_nextByte (f_Opd_nextByte S).2).2 5 ((f_Opd_nextByte S).1)) (((f_Opd_nextByte (f_Opd_nextByte S).2).1 <<< ((16 : Int32) &&& 31)) ||| ((f_Opd_nextByte (f_Opd_nextByte S).2).2.1 1))).1
def mvB (T : Sc) : Sc := f_Mdl_write (f_Mdl_read (pr (f_Mdl_next (f_Mdl_next T).2).2 5 ((f_Mdl_next T).1)) (((f_Mdl_next (f_Mdl_next T).2).1 <<< ((16 : Int32) &&& 31)) ||| ((f_Mdl_next (f_Mdl_next T).2).2.1 1))).2 (((f_Mdl_next T).1 <<< ((16 : Int32) &&& 31)) ||| ((f_Mdl_read (pr (f_Mdl_next (f_Mdl_next T).2).2 5 ((f_Mdl_next T).1)) (((f_Mdl_next (f_Mdl_next T).2).1 <<< ((16 : Int32) &&& 31)) ||| ((f_Mdl_next (f_Mdl_next T).2).2.1 1))).2.1 2)) (f_Mdl_read (pr (f_Mdl_next (f_Mdl_next T).2).2 5 ((f_Mdl_next T).1)) (((f_Mdl_next (f_Mdl_next T).2).1 <<< ((16 : Int32) &&& 31)) ||| ((f_Mdl_next (f_Mdl_next T).2).2.1 1))).1
theorem mrd_2 (T : Sc) (q v : Int32) : (f_Mdl_read (pr T 5 v) q).2.1 2 = T.1 2 := rfl
theorem mv_AB {S T : Sc} (h : RR S T) : RR (mvA S) (mvB T) := by
  obtain ⟨a1, a2, a3⟩ := s_next h
  obtain ⟨b1, b2, b3⟩ := s_next a3
  have c3 := R_5 b3 a1 a2
  have hx := RRe_1 b3
  have hy := RRe_2 b3
  obtain ⟨d1, d2, d3⟩ := s_read (c := ((f_Opd_nextByte (f_Opd_nextByte S).2).1 <<< ((16 : Int32) &&& 31)) ||| (f_Opd_nextByte (f_Opd_nextByte S).2).2.1 1) (q := ((f_Mdl_next (f_Mdl_next T).2).1 <<< ((16 : Int32) &&& 31)) ||| (f_Mdl_next (f_Mdl_next T).2).2.1 1) c3 (by rw [b1, hx]; exact c_cell _)
  unfold mvA mvB
  rw [mrd_2]
  refine s_write d3 ?_ (by rw [d1])
  rw [a1, hy]
  exact c_cell _
theorem jt_0 (S : Sc) (x : Int32) : (f_Reg_jumpTo S x).1 0 = S.1 0 := rfl
theorem pr2_0 (S : Sc) (x : Int32) : (pr S 2 x).1 0 = S.1 0 := rfl
theorem pr1_0 (S : Sc) (x : Int32) : (pr S 1 x).1 0 = S.1 0 := rfl
theorem mv_eq (T : Sc) (x : Int32) : f_Mdl_moveBlock T x = if (mvB T).1 0 = (0 : Int32) then (pr (pr (pr (pr (mvB T) 1 (f_Mdl_cut ((mvB T).1 1 + x) (f_Mdl_is (mvB T) 16))) 2 (f_Mdl_cut ((mvB T).1 2 + x) (f_Mdl_is (pr (mvB T) 1 (f_Mdl_cut ((mvB T).1 1 + x) (f_Mdl_is (mvB T) 16))) 16))) 8 ((mvB T).1 8)) 0 (((mvB T).1 0 - (1 : Int32)) &&& (65535 : Int32))) else (pr (pr (pr (pr (mvB T) 1 (f_Mdl_cut ((mvB T).1 1 + x) (f_Mdl_is (mvB T) 16))) 2 (f_Mdl_cut ((mvB T).1 2 + x) (f_Mdl_is (pr (mvB T) 1 (f_Mdl_cut ((mvB T).1 1 + x) (f_Mdl_is (mvB T) 16))) 16))) 8 ((T.1 8 - (1 : Int32)) &&& (65535 : Int32))) 0 (((mvB T).1 0 - (1 : Int32)) &&& (65535 : Int32))) := rfl
theorem mvA_eq : True := trivial
theorem s_mv {S T : Sc} {x : Int32} (h : RR S T) : RR (if (mvA S).1 0 = (0 : Int32) then (pr (pr (pr (mvA S) 1 (((mvA S).1 1 + x) &&& f_Reg_indexMask (mvA S))) 2 (((mvA S).1 2 + x) &&& f_Reg_indexMask (pr (mvA S) 1 (((mvA S).1 1 + x) &&& f_Reg_indexMask (mvA S))))) 0 (((mvA S).1 0 - (1 : Int32)) &&& (65535 : Int32))) else (pr (f_Reg_jumpTo (pr (pr (mvA S) 1 (((mvA S).1 1 + x) &&& f_Reg_indexMask (mvA S))) 2 (((mvA S).1 2 + x) &&& f_Reg_indexMask (pr (mvA S) 1 (((mvA S).1 1 + x) &&& f_Reg_indexMask (mvA S))))) (S.1 7 - (1 : Int32))) 0 (((mvA S).1 0 - (1 : Int32)) &&& (65535 : Int32)))) (f_Mdl_moveBlock T x) := by
  have hAB := mv_AB h
  rw [mv_eq, RRe_0 hAB]
  have cut : ∀ (z z2 : Int32), z = z2 → z &&& f_Reg_indexMask (mvA S) = f_Mdl_cut z2 (f_Mdl_is (mvB T) 16) := by
    intro z z2 e
    subst e
    show z &&& f_Reg_maskOf (f_Reg_wideIndex (mvA S)) = _
    rcases WN_I hAB with ⟨p1, p2⟩ | ⟨p1, p2⟩
    · rw [p1, p2]; rfl
    · rw [p1, p2]; rfl
  have k1 := R_1 (v := ((mvA S).1 1 + x) &&& f_Reg_indexMask (mvA S)) hAB (cut _ _ (by rw [RRe_1 hAB])) (mask_r16 _)
  have k2 := R_2 (v := ((mvA S).1 2 + x) &&& f_Reg_indexMask (mvA S)) k1 (cut _ _ (by rw [RRe_2 hAB])) (mask_r16 _)
  have i1 : f_Reg_indexMask (pr (mvA S) 1 (((mvA S).1 1 + x) &&& f_Reg_indexMask (mvA S))) = f_Reg_indexMask (mvA S) := rfl
  have i2 : f_Mdl_is (pr (mvB T) 1 (f_Mdl_cut ((mvB T).1 1 + x) (f_Mdl_is (mvB T) 16))) 16 = f_Mdl_is (mvB T) 16 := rfl
  rw [i1, i2]
  by_cases z : (mvB T).1 0 = (0 : Int32)
  · rw [if_pos z, if_pos z]
    have k3 : RR (pr (pr (mvA S) 1 (((mvA S).1 1 + x) &&& f_Reg_indexMask (mvA S))) 2 (((mvA S).1 2 + x) &&& f_Reg_indexMask (mvA S))) (pr (pr (pr (mvB T) 1 (f_Mdl_cut ((mvB T).1 1 + x) (f_Mdl_is (mvB T) 16))) 2 (f_Mdl_cut ((mvB T).1 2 + x) (f_Mdl_is (mvB T) 16))) 8 ((mvB T).1 8)) := by
      obtain ⟨e, g, hm, hl⟩ := k2
      exact ⟨e, g, hm, hl⟩
    exact R_0 k3 rfl (m16 _)
  · rw [if_neg z, if_neg z]
    have k3 := s_jump (v := S.1 7 - (1 : Int32)) (v2 := (T.1 8 - (1 : Int32)) &&& 65535) k2 (by rw [RRe_7 h])
    exact R_0 k3 rfl (m16 _)
theorem fi0 (T : Sc) : f_Mdl_findIndex T 0 = f_Mdl_direct T 0 := by
  unfold f_Mdl_findIndex
  rw [if_pos (rfl : (0 : Int32) = 0), bs_id]
theorem fi1 (T : Sc) : f_Mdl_findIndex T 1 = f_Mdl_far (f_Mdl_nextWord T).2 ((T.1 5 <<< ((16 : Int32) &&& 31)) + (f_Mdl_nextWord T).1) := rfl
theorem mdi_6 (T : Sc) (x : Int32) : (f_Mdl_direct T x).1 6 = T.1 6 := rfl
theorem mnw_6 (T : Sc) : (f_Mdl_nextWord T).2.1 6 = T.1 6 := rfl
theorem far_6 (T : Sc) (x : Int32) : (f_Mdl_far T x).1 6 = T.1 6 := rfl
theorem sp_fi {S T : Sc} (h : RR S T) (m x : Int32) (hm : (m = 5 ∧ x = 0) ∨ (m = 13 ∧ x = 1)) : RR (f_Opd_place S m).2 (f_Mdl_findIndex T x) ∧ PR (f_Opd_place S m).1 ((f_Mdl_findIndex T x).1 14) ((f_Mdl_findIndex T x).1 15) ∧ (f_Opd_place S m).2.1 8 = S.1 8 ∧ (f_Mdl_findIndex T x).1 6 = T.1 6 := by
  rcases hm with ⟨rfl, rfl⟩ | ⟨rfl, rfl⟩
  · obtain ⟨d1, d2⟩ := s_dir (x := 0) h rfl
    rw [pl_5, fi0]
    exact ⟨d1, d2, cdi_8 S 0, mdi_6 T 0⟩
  · obtain ⟨a1, a2, a3⟩ := s_nw h
    have e5 := RRe_5 a3
    rw [mnw_5] at e5
    rw [pl_13, fi1, far_6, mnw_6]
    exact ⟨R_far a3, PR_bank0 e5 a1, cnw_8 S, rfl⟩
theorem sa_eq (T : Sc) (x v n : Int32) : f_Mdl_storeAt T x v n = f_Mdl_store (f_Mdl_findIndex T x) v n := rfl
theorem call_eq (T : Sc) (x : Int32) : f_Mdl_call T x = pr (f_Mdl_pushWord T ((T.1 8 - (1 : Int32)) &&& (65535 : Int32))) 8 (x &&& (65535 : Int32)) := rfl
theorem io_160 (T : Sc) : f_Mdl_indexOperand T 160 = f_Mdl_immediate T (f_Mdl_is T 16) := rfl
theorem io_162 (T : Sc) : f_Mdl_indexOperand T 162 = f_Mdl_immediate T (f_Mdl_is T 16) := rfl
theorem io_164 (T : Sc) : f_Mdl_indexOperand T 164 = f_Mdl_load (f_Mdl_findIndex T 0) (f_Mdl_is (f_Mdl_findIndex T 0) 16) := rfl
theorem io_166 (T : Sc) : f_Mdl_indexOperand T 166 = f_Mdl_load (f_Mdl_findIndex T 0) (f_Mdl_is (f_Mdl_findIndex T 0) 16) := rfl
theorem io_172 (T : Sc) : f_Mdl_indexOperand T 172 = f_Mdl_load (f_Mdl_findIndex T 1) (f_Mdl_is (f_Mdl_findIndex T 1) 16) := rfl
theorem io_174 (T : Sc) : f_Mdl_indexOperand T 174 = f_Mdl_load (f_Mdl_findIndex T 1) (f_Mdl_is (f_Mdl_findIndex T 1) 16) := rfl
theorem is_e {T T2 : Sc} (e : T2.1 6 = T.1 6) (f : Int32) : f_Mdl_is T2 f = f_Mdl_is T f := by
  unfold f_Mdl_is
  rw [e]
theorem s_add2 {S T : Sc} {v v2 : Int32} (h : RR S T) (e : v = v2) : RR (f_Prc_addToA S v) (f_Mdl_add T v2) := by subst e; exact s_add h
theorem msk_cut {w n : Int32} (hw : WN w n) (z : Int32) : (z ^^^ (-1 : Int32)) &&& f_Reg_maskOf w = f_Mdl_cut (z ^^^ (-1 : Int32)) n := by
  rcases hw with ⟨rfl, rfl⟩ | ⟨rfl, rfl⟩ <;> rfl
theorem is_01 {T : Sc} {f : Int32} (h : ¬ f_Mdl_is T f = 1) : f_Mdl_is T f = 0 := by
  unfold f_Mdl_is at h ⊢
  split
  · rfl
  · rename_i q; rw [if_neg q] at h; exact absurd rfl h
theorem a_rg (S : Sc) : f_Reg_a S &&& f_Reg_maskOf (f_Reg_wideA S) = f_Reg_a S := by
  show (S.1 0 &&& f_Reg_maskOf (f_Reg_wideA S)) &&& f_Reg_maskOf (f_Reg_wideA S) = _
  rw [Int32.and_assoc, Int32.and_self]; rfl
theorem wA_b {S S2 : Sc} (e : S2.1 8 &&& 32 = S.1 8 &&& 32) : f_Reg_wideA S2 = f_Reg_wideA S := by
  unfold f_Reg_wideA
  rw [e]
theorem s_setA3 {S T : Sc} {v w n E : Int32} (h : RR S T) (hw : WN (f_Reg_wideA S) n) (hw2 : WN w n) (ew : f_Reg_wideA S = w) (e : v = E &&& f_Reg_maskOf w) : RR (f_Reg_loadA S v) (f_Mdl_setAccumulator (f_Mdl_result T E n).2 (f_Mdl_result T E n).1) := by
  have k := s_setA (v := E) h hw
  have q : f_Reg_loadA S v = f_Reg_loadA S E := by
    subst ew
    unfold f_Reg_loadA
    rw [e, Int32.and_assoc, Int32.and_self]
  rw [q]
  exact k
theorem wr_reg {S : Sc} (c v w : Int32) : (f_Bus_writeValue S c v w).1 8 = S.1 8 := by
  unfold f_Bus_writeValue
  show (if w = (0 : Int32) then _ else _ : Sc).1 8 = _
  split <;> rfl
theorem cm0 (T : Sc) (km : Int32) : f_Mdl_changeMemory T km 0 = f_Mdl_store (f_Mdl_changed (f_Mdl_load (f_Mdl_findIndex T 0) (f_Mdl_is T 32)).2 km (f_Mdl_load (f_Mdl_findIndex T 0) (f_Mdl_is T 32)).1 (f_Mdl_is T 32)).2 (f_Mdl_changed (f_Mdl_load (f_Mdl_findIndex T 0) (f_Mdl_is T 32)).2 km (f_Mdl_load (f_Mdl_findIndex T 0) (f_Mdl_is T 32)).1 (f_Mdl_is T 32)).1 (f_Mdl_is T 32) := by
  rw [fi0]; rfl
theorem cm1 (T : Sc) (km : Int32) : f_Mdl_changeMemory T km 1 = f_Mdl_store (f_Mdl_changed (f_Mdl_load (f_Mdl_findIndex T 1) (f_Mdl_is T 32)).2 km (f_Mdl_load (f_Mdl_findIndex T 1) (f_Mdl_is T 32)).1 (f_Mdl_is T 32)).2 (f_Mdl_changed (f_Mdl_load (f_Mdl_findIndex T 1) (f_Mdl_is T 32)).2 km (f_Mdl_load (f_Mdl_findIndex T 1) (f_Mdl_is T 32)).1 (f_Mdl_is T 32)).1 (f_Mdl_is T 32) := by
  rw [fi1]; rfl
theorem s_cm {S T : Sc} (h : RR S T) (m x : Int32) (hm : (m = 5 ∧ x = 0) ∨ (m = 13 ∧ x = 1)) {kc km : Int32} {M : Sc} (hM : M = f_Mdl_store (f_Mdl_changed (f_Mdl_load (f_Mdl_findIndex T x) (f_Mdl_is T 32)).2 km (f_Mdl_load (f_Mdl_findIndex T x) (f_Mdl_is T 32)).1 (f_Mdl_is T 32)).2 (f_Mdl_changed (f_Mdl_load (f_Mdl_findIndex T x) (f_Mdl_is T 32)).2 km (f_Mdl_load (f_Mdl_findIndex T x) (f_Mdl_is T 32)).1 (f_Mdl_is T 32)).1 (f_Mdl_is T 32))
    (sc : ∀ {S T : Sc} {v w n : Int32}, RR S T → WN w n → v &&& f_Reg_maskOf w = v → SC S T v w n kc km) :
    RR (f_Bus_writeValue (f_Reg_showResult (f_Prc_changed (f_Bus_readValue (f_Opd_place S m).2 (f_Opd_place S m).1 (f_Reg_wideA S)).2 kc (f_Bus_readValue (f_Opd_place S m).2 (f_Opd_place S m).1 (f_Reg_wideA S)).1 (f_Reg_wideA S)).2 (f_Prc_changed (f_Bus_readValue (f_Opd_place S m).2 (f_Opd_place S m).1 (f_Reg_wideA S)).2 kc (f_Bus_readValue (f_Opd_place S m).2 (f_Opd_place S m).1 (f_Reg_wideA S)).1 (f_Reg_wideA S)).1 (f_Reg_wideA S)) (f_Opd_place S m).1 (f_Prc_changed (f_Bus_readValue (f_Opd_place S m).2 (f_Opd_place S m).1 (f_Reg_wideA S)).2 kc (f_Bus_readValue (f_Opd_place S m).2 (f_Opd_place S m).1 (f_Reg_wideA S)).1 (f_Reg_wideA S)).1 (f_Reg_wideA S)) M := by
  subst hM
  obtain ⟨f2, f3, f4, f5⟩ := sp_fi h m x hm
  have hw := WN_A h
  obtain ⟨l1, l2, l3⟩ := s_load f2 f3 hw
  obtain ⟨T2, Ex, q1, q2, q3, q4, q5, q6⟩ := sc l3 hw (rg_rv hw)
  have k := s_show (v := Ex) q2 hw
  have r1 := res_fr T2 Ex hw
  have r2 := ld_fr (f_Mdl_findIndex T x) hw
  have hp : PR (f_Opd_place S m).1 ((f_Mdl_result T2 Ex (f_Mdl_is T 32)).2.1 14) ((f_Mdl_result T2 Ex (f_Mdl_is T 32)).2.1 15) := by
    rw [r1.1, r1.2, q5, q6, r2.1, r2.2]
    exact f3
  rw [← q3] at k
  rw [l1] at q1
  rw [q1]
  exact s_store k.2 hp hw (by rw [k.1]) (fun _ => k.1.symm)
theorem ec_01 (S : Sc) : f_Prc_useAccumulator S (1 : Int32) = ((1 : Int32), (f_Reg_loadA (f_Bus_readValue (f_Opd_place S (1 : Int32)).2 (f_Opd_place S (1 : Int32)).1 (f_Reg_wideA S)).2 ((f_Reg_a (f_Bus_readValue (f_Opd_place S (1 : Int32)).2 (f_Opd_place S (1 : Int32)).1 (f_Reg_wideA S)).2) ||| (f_Bus_readValue (f_Opd_place S (1 : Int32)).2 (f_Opd_place S (1 : Int32)).1 (f_Reg_wideA S)).1))) := rfl
theorem em_01 (T : Sc) : f_Mdl_arithmetic T (1 : Int32) = ((1 : Int32), (f_Mdl_setAccumulator (f_Mdl_result (f_Mdl_load (f_Mdl_find T (1 : Int32)).2 (f_Mdl_is T (32 : Int32))).2 ((f_Mdl_accumulator (f_Mdl_load (f_Mdl_find T (1 : Int32)).2 (f_Mdl_is T (32 : Int32))).2) ||| (f_Mdl_load (f_Mdl_find T (1 : Int32)).2 (f_Mdl_is T (32 : Int32))).1) (f_Mdl_is T (32 : Int32))).2 (f_Mdl_result (f_Mdl_load (f_Mdl_find T (1 : Int32)).2 (f_Mdl_is T (32 : Int32))).2 ((f_Mdl_accumulator (f_Mdl_load (f_Mdl_find T (1 : Int32)).2 (f_Mdl_is T (32 : Int32))).2) ||| (f_Mdl_load (f_Mdl_find T (1 : Int32)).2 (f_Mdl_is T (32 : Int32))).1) (f_Mdl_is T (32 : Int32))).1)) := by
  have e : f_Mdl_arithmetic T (1 : Int32) = if (f_Mdl_find T (1 : Int32)).1 = (0 : Int32) then (((0 : Int32), (f_Mdl_find T (1 : Int32)).2)) else (((1 : Int32), (f_Mdl_setAccumulator (f_Mdl_result (f_Mdl_load (f_Mdl_find T (1 : Int32)).2 (f_Mdl_is T (32 : Int32))).2 ((f_Mdl_accumulator (f_Mdl_load (f_Mdl_find T (1 : Int32)).2 (f_Mdl_is T (32 : Int32))).2) ||| (f_Mdl_load (f_Mdl_find T (1 : Int32)).2 (f_Mdl_is T (32 : Int32))).1) (f_Mdl_is T (32 : Int32))).2 (f_Mdl_result (f_Mdl_load (f_Mdl_find T (1 : Int32)).2 (f_Mdl_is T (32 : Int32))).2 ((f_Mdl_accumulator (f_Mdl_load (f_Mdl_find T (1 : Int32)).2 (f_Mdl_is T (32 : Int32))).2) ||| (f_Mdl_load (f_Mdl_find T (1 : Int32)).2 (f_Mdl_is T (32 : Int32))).1) (f_Mdl_is T (32 : Int32))).1))) := rfl
  rw [e, fd1_1, if_neg (by decide : ¬ (1 : Int32) = 0)]
theorem o_01 {S T : Sc} (h : RR S T) : KO (f_Prc_useAccumulator S (1 : Int32)) (f_Mdl_arithmetic T (1 : Int32)) := by
  rw [ec_01, em_01]
  obtain ⟨f1, f2, f3, f4⟩ := sp_1 h
  obtain ⟨l1, l2, l3⟩ := s_load f2 f3 (WN_A h)
  have lf := (fr_rv (S := (f_Opd_place S 1).2) (c := (f_Opd_place S 1).1) (WN_A h)).trans f4
  have hw := WN_fr h lf
  exact ⟨rfl, rfl, s_setA2 l3 hw (by rw [acc_eq l3, l1])⟩
theorem ec_03 (S : Sc) : f_Prc_useAccumulator S (3 : Int32) = ((1 : Int32), (f_Reg_loadA (f_Bus_readValue (f_Opd_place S (3 : Int32)).2 (f_Opd_place S (3 : Int32)).1 (f_Reg_wideA S)).2 ((f_Reg_a (f_Bus_readValue (f_Opd_place S (3 : Int32)).2 (f_Opd_place S (3 : Int32)).1 (f_Reg_wideA S)).2) ||| (f_Bus_readValue (f_Opd_place S (3 : Int32)).2 (f_Opd_place S (3 : Int32)).1 (f_Reg_wideA S)).1))) := rfl
theorem em_03 (T : Sc) : f_Mdl_arithmetic T (3 : Int32) = ((1 : Int32), (f_Mdl_setAccumulator (f_Mdl_result (f_Mdl_load (f_Mdl_find T (3 : Int32)).2 (f_Mdl_is T (32 : Int32))).2 ((f_Mdl_accumulator (f_Mdl_load (f_Mdl_find T (3 : Int32)).2 (f_Mdl_is T (32 : Int32))).2) ||| (f_Mdl_load (f_Mdl_find T (3 : Int32)).2 (f_Mdl_is T (32 : Int32))).1) (f_Mdl_is T (32 : Int32))).2 (f_Mdl_result (f_Mdl_load (f_Mdl_find T (3 : Int32)).2 (f_Mdl_is T (32 : Int32))).2 ((f_Mdl_accumulator (f_Mdl_load (f_Mdl_find T (3 : Int32)).2 (f_Mdl_is T (32 : Int32))).2) ||| (f_Mdl_load (f_Mdl_find T (3 : Int32)).2 (f_Mdl_is T (32 : Int32))).1) (f_Mdl_is T (32 : Int32))).1)) := by
  have e : f_Mdl_arithmetic T (3 : Int32) = if (f_Mdl_find T (3 : Int32)).1 = (0 : Int32) then (((0 : Int32), (f_Mdl_find T (3 : Int32)).2)) else (((1 : Int32), (f_Mdl_setAccumulator (f_Mdl_result (f_Mdl_load (f_Mdl_find T (3 : Int32)).2 (f_Mdl_is T (32 : Int32))).2 ((f_Mdl_accumulator (f_Mdl_load (f_Mdl_find T (3 : Int32)).2 (f_Mdl_is T (32 : Int32))).2) ||| (f_Mdl_load (f_Mdl_find T (3 : Int32)).2 (f_Mdl_is T (32 : Int32))).1) (f_Mdl_is T (32 : Int32))).2 (f_Mdl_result (f_Mdl_load (f_Mdl_find T (3 : Int32)).2 (f_Mdl_is T (32 : Int32))).2 ((f_Mdl_accumulator (f_Mdl_load (f_Mdl_find T (3 : Int32)).2 (f_Mdl_is T (32 : Int32))).2) ||| (f_Mdl_load (f_Mdl_find T (3 : Int32)).2 (f_Mdl_is T (32 : Int32))).1) (f_Mdl_is T (32 : Int32))).1))) := rfl
  rw [e, fd1_3, if_neg (by decide : ¬ (1 : Int32) = 0)]
theorem o_03 {S T : Sc} (h : RR S T) : KO (f_Prc_useAccumulator S (3 : Int32)) (f_Mdl_arithmetic T (3 : Int32)) := by
  rw [ec_03, em_03]
  obtain ⟨f1, f2, f3, f4⟩ := sp_3 h
  obtain ⟨l1, l2, l3⟩ := s_load f2 f3 (WN_A h)
  have lf := (fr_rv (S := (f_Opd_place S 3).2) (c := (f_Opd_place S 3).1) (WN_A h)).trans f4
  have hw := WN_fr h lf
  exact ⟨rfl, rfl, s_setA2 l3 hw (by rw [acc_eq l3, l1])⟩
theorem ec_05 (S : Sc) : f_Prc_useAccumulator S (5 : Int32) = ((1 : Int32), (f_Reg_loadA (f_Bus_readValue (f_Opd_place S (5 : Int32)).2 (f_Opd_place S (5 : Int32)).1 (f_Reg_wideA S)).2 ((f_Reg_a (f_Bus_readValue (f_Opd_place S (5 : Int32)).2 (f_Opd_place S (5 : Int32)).1 (f_Reg_wideA S)).2) ||| (f_Bus_readValue (f_Opd_place S (5 : Int32)).2 (f_Opd_place S (5 : Int32)).1 (f_Reg_wideA S)).1))) := rfl
theorem em_05 (T : Sc) : f_Mdl_arithmetic T (5 : Int32) = ((1 : Int32), (f_Mdl_setAccumulator (f_Mdl_result (f_Mdl_load (f_Mdl_find T (5 : Int32)).2 (f_Mdl_is T (32 : Int32))).2 ((f_Mdl_accumulator (f_Mdl_load (f_Mdl_find T (5 : Int32)).2 (f_Mdl_is T (32 : Int32))).2) ||| (f_Mdl_load (f_Mdl_find T (5 : Int32)).2 (f_Mdl_is T (32 : Int32))).1) (f_Mdl_is T (32 : Int32))).2 (f_Mdl_result (f_Mdl_load (f_Mdl_find T (5 : Int32)).2 (f_Mdl_is T (32 : Int32))).2 ((f_Mdl_accumulator (f_Mdl_load (f_Mdl_find T (5 : Int32)).2 (f_Mdl_is T (32 : Int32))).2) ||| (f_Mdl_load (f_Mdl_find T (5 : Int32)).2 (f_Mdl_is T (32 : Int32))).1) (f_Mdl_is T (32 : Int32))).1)) := by
  have e : f_Mdl_arithmetic T (5 : Int32) = if (f_Mdl_find T (5 : Int32)).1 = (0 : Int32) then (((0 : Int32), (f_Mdl_find T (5 : Int32)).2)) else (((1 : Int32), (f_Mdl_setAccumulator (f_Mdl_result (f_Mdl_load (f_Mdl_find T (5 : Int32)).2 (f_Mdl_is T (32 : Int32))).2 ((f_Mdl_accumulator (f_Mdl_load (f_Mdl_find T (5 : Int32)).2 (f_Mdl_is T (32 : Int32))).2) ||| (f_Mdl_load (f_Mdl_find T (5 : Int32)).2 (f_Mdl_is T (32 : Int32))).1) (f_Mdl_is T (32 : Int32))).2 (f_Mdl_result (f_Mdl_load (f_Mdl_find T (5 : Int32)).2 (f_Mdl_is T (32 : Int32))).2 ((f_Mdl_accumulator (f_Mdl_load (f_Mdl_find T (5 : Int32)).2 (f_Mdl_is T (32 : Int32))).2) ||| (f_Mdl_load (f_Mdl_find T (5 : Int32)).2 (f_Mdl_is T (32 : Int32))).1) (f_Mdl_is T (32 : Int32))).1))) := rfl
  rw [e, fd1_5, if_neg (by decide : ¬ (1 : Int32) = 0)]
theorem o_05 {S T : Sc} (h : RR S T) : KO (f_Prc_useAccumulator S (5 : Int32)) (f_Mdl_arithmetic T (5 : Int32)) := by
  rw [ec_05, em_05]
  obtain ⟨f1, f2, f3, f4⟩ := sp_5 h
  obtain ⟨l1, l2, l3⟩ := s_load f2 f3 (WN_A h)
  have lf := (fr_rv (S := (f_Opd_place S 5).2) (c := (f_Opd_place S 5).1) (WN_A h)).trans f4
  have hw := WN_fr h lf
  exact ⟨rfl, rfl, s_setA2 l3 hw (by rw [acc_eq l3, l1])⟩
theorem ec_06 (S : Sc) : f_Prc_changeMemory S (6 : Int32) = ((1 : Int32), (f_Bus_writeValue (f_Reg_showResult (f_Prc_changed (f_Bus_readValue (f_Opd_place S (5 : Int32)).2 (f_Opd_place S (5 : Int32)).1 (f_Reg_wideA S)).2 (0 : Int32) (f_Bus_readValue (f_Opd_place S (5 : Int32)).2 (f_Opd_place S (5 : Int32)).1 (f_Reg_wideA S)).1 (f_Reg_wideA S)).2 (f_Prc_changed (f_Bus_readValue (f_Opd_place S (5 : Int32)).2 (f_Opd_place S (5 : Int32)).1 (f_Reg_wideA S)).2 (0 : Int32) (f_Bus_readValue (f_Opd_place S (5 : Int32)).2 (f_Opd_place S (5 : Int32)).1 (f_Reg_wideA S)).1 (f_Reg_wideA S)).1 (f_Reg_wideA S)) (f_Opd_place S (5 : Int32)).1 (f_Prc_changed (f_Bus_readValue (f_Opd_place S (5 : Int32)).2 (f_Opd_place S (5 : Int32)).1 (f_Reg_wideA S)).2 (0 : Int32) (f_Bus_readValue (f_Opd_place S (5 : Int32)).2 (f_Opd_place S (5 : Int32)).1 (f_Reg_wideA S)).1 (f_Reg_wideA S)).1 (f_Reg_wideA S))) := rfl
theorem em_06 (T : Sc) : f_Mdl_change T (6 : Int32) = ((1 : Int32), (f_Mdl_changeMemory T (2 : Int32) (0 : Int32))) := rfl
theorem o_06 {S T : Sc} (h : RR S T) : KO (f_Prc_changeMemory S (6 : Int32)) (f_Mdl_change T (6 : Int32)) := by
  rw [ec_06, em_06]
  exact ⟨rfl, rfl, s_cm h 5 0 (Or.inl ⟨rfl, rfl⟩) (cm0 T 2) (fun {S T : Sc} {v w n : Int32} => sc_0)⟩
theorem ec_07 (S : Sc) : f_Prc_useAccumulator S (7 : Int32) = ((1 : Int32), (f_Reg_loadA (f_Bus_readValue (f_Opd_place S (7 : Int32)).2 (f_Opd_place S (7 : Int32)).1 (f_Reg_wideA S)).2 ((f_Reg_a (f_Bus_readValue (f_Opd_place S (7 : Int32)).2 (f_Opd_place S (7 : Int32)).1 (f_Reg_wideA S)).2) ||| (f_Bus_readValue (f_Opd_place S (7 : Int32)).2 (f_Opd_place S (7 : Int32)).1 (f_Reg_wideA S)).1))) := rfl
theorem em_07 (T : Sc) : f_Mdl_arithmetic T (7 : Int32) = ((1 : Int32), (f_Mdl_setAccumulator (f_Mdl_result (f_Mdl_load (f_Mdl_find T (7 : Int32)).2 (f_Mdl_is T (32 : Int32))).2 ((f_Mdl_accumulator (f_Mdl_load (f_Mdl_find T (7 : Int32)).2 (f_Mdl_is T (32 : Int32))).2) ||| (f_Mdl_load (f_Mdl_find T (7 : Int32)).2 (f_Mdl_is T (32 : Int32))).1) (f_Mdl_is T (32 : Int32))).2 (f_Mdl_result (f_Mdl_load (f_Mdl_find T (7 : Int32)).2 (f_Mdl_is T (32 : Int32))).2 ((f_Mdl_accumulator (f_Mdl_load (f_Mdl_find T (7 : Int32)).2 (f_Mdl_is T (32 : Int32))).2) ||| (f_Mdl_load (f_Mdl_find T (7 : Int32)).2 (f_Mdl_is T (32 : Int32))).1) (f_Mdl_is T (32 : Int32))).1)) := by
  have e : f_Mdl_arithmetic T (7 : Int32) = if (f_Mdl_find T (7 : Int32)).1 = (0 : Int32) then (((0 : Int32), (f_Mdl_find T (7 : Int32)).2)) else (((1 : Int32), (f_Mdl_setAccumulator (f_Mdl_result (f_Mdl_load (f_Mdl_find T (7 : Int32)).2 (f_Mdl_is T (32 : Int32))).2 ((f_Mdl_accumulator (f_Mdl_load (f_Mdl_find T (7 : Int32)).2 (f_Mdl_is T (32 : Int32))).2) ||| (f_Mdl_load (f_Mdl_find T (7 : Int32)).2 (f_Mdl_is T (32 : Int32))).1) (f_Mdl_is T (32 : Int32))).2 (f_Mdl_result (f_Mdl_load (f_Mdl_find T (7 : Int32)).2 (f_Mdl_is T (32 : Int32))).2 ((f_Mdl_accumulator (f_Mdl_load (f_Mdl_find T (7 : Int32)).2 (f_Mdl_is T (32 : Int32))).2) ||| (f_Mdl_load (f_Mdl_find T (7 : Int32)).2 (f_Mdl_is T (32 : Int32))).1) (f_Mdl_is T (32 : Int32))).1))) := rfl
  rw [e, fd1_7, if_neg (by decide : ¬ (1 : Int32) = 0)]
theorem o_07 {S T : Sc} (h : RR S T) : KO (f_Prc_useAccumulator S (7 : Int32)) (f_Mdl_arithmetic T (7 : Int32)) := by
  rw [ec_07, em_07]
  obtain ⟨f1, f2, f3, f4⟩ := sp_7 h
  obtain ⟨l1, l2, l3⟩ := s_load f2 f3 (WN_A h)
  have lf := (fr_rv (S := (f_Opd_place S 7).2) (c := (f_Opd_place S 7).1) (WN_A h)).trans f4
  have hw := WN_fr h lf
  exact ⟨rfl, rfl, s_setA2 l3 hw (by rw [acc_eq l3, l1])⟩
theorem ec_08 (S : Sc) : f_Prc_push S (8 : Int32) = ((1 : Int32), (f_Stk_pushByte S (S.1 8))) := rfl
theorem em_08 (T : Sc) : f_Mdl_stack T (8 : Int32) = ((1 : Int32), (f_Mdl_push T (T.1 6))) := rfl
theorem o_08 {S T : Sc} (h : RR S T) : KO (f_Prc_push S (8 : Int32)) (f_Mdl_stack T (8 : Int32)) := by
  rw [ec_08, em_08]
  exact ⟨rfl, rfl, s_push h (by rw [RRe_8 h])⟩
theorem ec_09 (S : Sc) : f_Prc_useAccumulator S (9 : Int32) = ((1 : Int32), (f_Reg_loadA (f_Opd_nextValue S (f_Reg_wideA S)).2 ((f_Reg_a (f_Opd_nextValue S (f_Reg_wideA S)).2) ||| (f_Opd_nextValue S (f_Reg_wideA S)).1))) := rfl
theorem em_09 (T : Sc) : f_Mdl_arithmetic T (9 : Int32) = ((1 : Int32), (f_Mdl_setAccumulator (f_Mdl_result (f_Mdl_immediate T (f_Mdl_is T (32 : Int32))).2 ((f_Mdl_accumulator (f_Mdl_immediate T (f_Mdl_is T (32 : Int32))).2) ||| (f_Mdl_immediate T (f_Mdl_is T (32 : Int32))).1) (f_Mdl_is T (32 : Int32))).2 (f_Mdl_result (f_Mdl_immediate T (f_Mdl_is T (32 : Int32))).2 ((f_Mdl_accumulator (f_Mdl_immediate T (f_Mdl_is T (32 : Int32))).2) ||| (f_Mdl_immediate T (f_Mdl_is T (32 : Int32))).1) (f_Mdl_is T (32 : Int32))).1)) := rfl
theorem o_09 {S T : Sc} (h : RR S T) : KO (f_Prc_useAccumulator S (9 : Int32)) (f_Mdl_arithmetic T (9 : Int32)) := by
  rw [ec_09, em_09]
  obtain ⟨l1, l2, l3⟩ := s_nv h (WN_A h)
  have lf := fr_nv (S := S) (WN_A h)
  have hw := WN_fr h lf
  exact ⟨rfl, rfl, s_setA2 l3 hw (by rw [acc_eq l3, l1])⟩
theorem ec_0A (S : Sc) : f_Prc_changeRegister S (10 : Int32) = ((1 : Int32), (f_Reg_loadA (f_Prc_changed S (0 : Int32) (f_Reg_a S) (f_Reg_wideA S)).2 (f_Prc_changed S (0 : Int32) (f_Reg_a S) (f_Reg_wideA S)).1)) := rfl
theorem em_0A (T : Sc) : f_Mdl_change T (10 : Int32) = ((1 : Int32), (f_Mdl_setAccumulator (f_Mdl_changed T (2 : Int32) (f_Mdl_accumulator T) (f_Mdl_is T (32 : Int32))).2 (f_Mdl_changed T (2 : Int32) (f_Mdl_accumulator T) (f_Mdl_is T (32 : Int32))).1)) := rfl
theorem o_0A {S T : Sc} (h : RR S T) : KO (f_Prc_changeRegister S (10 : Int32)) (f_Mdl_change T (10 : Int32)) := by
  rw [ec_0A, em_0A]
  obtain ⟨T2, Ex, q1, q2, q3, q4, -, -⟩ := sc_0 h (WN_A h) (a_rg S)
  rw [← acc_eq h, q1]
  exact ⟨rfl, rfl, s_setA3 q2 (WN_b h q4) (WN_A h) (wA_b q4) q3⟩
theorem ec_0B (S : Sc) : f_Prc_push S (11 : Int32) = ((1 : Int32), (f_Stk_pushWord S (S.1 4))) := rfl
theorem em_0B (T : Sc) : f_Mdl_stack T (11 : Int32) = ((1 : Int32), (f_Mdl_pushWord T (T.1 4))) := rfl
theorem o_0B {S T : Sc} (h : RR S T) : KO (f_Prc_push S (11 : Int32)) (f_Mdl_stack T (11 : Int32)) := by
  rw [ec_0B, em_0B]
  exact ⟨rfl, rfl, s_pushW2 h (RRe_4 h)⟩
theorem ec_0D (S : Sc) : f_Prc_useAccumulator S (13 : Int32) = ((1 : Int32), (f_Reg_loadA (f_Bus_readValue (f_Opd_place S (13 : Int32)).2 (f_Opd_place S (13 : Int32)).1 (f_Reg_wideA S)).2 ((f_Reg_a (f_Bus_readValue (f_Opd_place S (13 : Int32)).2 (f_Opd_place S (13 : Int32)).1 (f_Reg_wideA S)).2) ||| (f_Bus_readValue (f_Opd_place S (13 : Int32)).2 (f_Opd_place S (13 : Int32)).1 (f_Reg_wideA S)).1))) := rfl
theorem em_0D (T : Sc) : f_Mdl_arithmetic T (13 : Int32) = ((1 : Int32), (f_Mdl_setAccumulator (f_Mdl_result (f_Mdl_load (f_Mdl_find T (13 : Int32)).2 (f_Mdl_is T (32 : Int32))).2 ((f_Mdl_accumulator (f_Mdl_load (f_Mdl_find T (13 : Int32)).2 (f_Mdl_is T (32 : Int32))).2) ||| (f_Mdl_load (f_Mdl_find T (13 : Int32)).2 (f_Mdl_is T (32 : Int32))).1) (f_Mdl_is T (32 : Int32))).2 (f_Mdl_result (f_Mdl_load (f_Mdl_find T (13 : Int32)).2 (f_Mdl_is T (32 : Int32))).2 ((f_Mdl_accumulator (f_Mdl_load (f_Mdl_find T (13 : Int32)).2 (f_Mdl_is T (32 : Int32))).2) ||| (f_Mdl_load (f_Mdl_find T (13 : Int32)).2 (f_Mdl_is T (32 : Int32))).1) (f_Mdl_is T (32 : Int32))).1)) := by
  have e : f_Mdl_arithmetic T (13 : Int32) = if (f_Mdl_find T (13 : Int32)).1 = (0 : Int32) then (((0 : Int32), (f_Mdl_find T (13 : Int32)).2)) else (((1 : Int32), (f_Mdl_setAccumulator (f_Mdl_result (f_Mdl_load (f_Mdl_find T (13 : Int32)).2 (f_Mdl_is T (32 : Int32))).2 ((f_Mdl_accumulator (f_Mdl_load (f_Mdl_find T (13 : Int32)).2 (f_Mdl_is T (32 : Int32))).2) ||| (f_Mdl_load (f_Mdl_find T (13 : Int32)).2 (f_Mdl_is T (32 : Int32))).1) (f_Mdl_is T (32 : Int32))).2 (f_Mdl_result (f_Mdl_load (f_Mdl_find T (13 : Int32)).2 (f_Mdl_is T (32 : Int32))).2 ((f_Mdl_accumulator (f_Mdl_load (f_Mdl_find T (13 : Int32)).2 (f_Mdl_is T (32 : Int32))).2) ||| (f_Mdl_load (f_Mdl_find T (13 : Int32)).2 (f_Mdl_is T (32 : Int32))).1) (f_Mdl_is T (32 : Int32))).1))) := rfl
  rw [e, fd1_13, if_neg (by decide : ¬ (1 : Int32) = 0)]
theorem o_0D {S T : Sc} (h : RR S T) : KO (f_Prc_useAccumulator S (13 : Int32)) (f_Mdl_arithmetic T (13 : Int32)) := by
  rw [ec_0D, em_0D]
  obtain ⟨f1, f2, f3, f4⟩ := sp_13 h
  obtain ⟨l1, l2, l3⟩ := s_load f2 f3 (WN_A h)
  have lf := (fr_rv (S := (f_Opd_place S 13).2) (c := (f_Opd_place S 13).1) (WN_A h)).trans f4
  have hw := WN_fr h lf
  exact ⟨rfl, rfl, s_setA2 l3 hw (by rw [acc_eq l3, l1])⟩
theorem ec_0F (S : Sc) : f_Prc_useAccumulator S (15 : Int32) = ((1 : Int32), (f_Reg_loadA (f_Bus_readValue (f_Opd_place S (15 : Int32)).2 (f_Opd_place S (15 : Int32)).1 (f_Reg_wideA S)).2 ((f_Reg_a (f_Bus_readValue (f_Opd_place S (15 : Int32)).2 (f_Opd_place S (15 : Int32)).1 (f_Reg_wideA S)).2) ||| (f_Bus_readValue (f_Opd_place S (15 : Int32)).2 (f_Opd_place S (15 : Int32)).1 (f_Reg_wideA S)).1))) := rfl
theorem em_0F (T : Sc) : f_Mdl_arithmetic T (15 : Int32) = ((1 : Int32), (f_Mdl_setAccumulator (f_Mdl_result (f_Mdl_load (f_Mdl_find T (15 : Int32)).2 (f_Mdl_is T (32 : Int32))).2 ((f_Mdl_accumulator (f_Mdl_load (f_Mdl_find T (15 : Int32)).2 (f_Mdl_is T (32 : Int32))).2) ||| (f_Mdl_load (f_Mdl_find T (15 : Int32)).2 (f_Mdl_is T (32 : Int32))).1) (f_Mdl_is T (32 : Int32))).2 (f_Mdl_result (f_Mdl_load (f_Mdl_find T (15 : Int32)).2 (f_Mdl_is T (32 : Int32))).2 ((f_Mdl_accumulator (f_Mdl_load (f_Mdl_find T (15 : Int32)).2 (f_Mdl_is T (32 : Int32))).2) ||| (f_Mdl_load (f_Mdl_find T (15 : Int32)).2 (f_Mdl_is T (32 : Int32))).1) (f_Mdl_is T (32 : Int32))).1)) := by
  have e : f_Mdl_arithmetic T (15 : Int32) = if (f_Mdl_find T (15 : Int32)).1 = (0 : Int32) then (((0 : Int32), (f_Mdl_find T (15 : Int32)).2)) else (((1 : Int32), (f_Mdl_setAccumulator (f_Mdl_result (f_Mdl_load (f_Mdl_find T (15 : Int32)).2 (f_Mdl_is T (32 : Int32))).2 ((f_Mdl_accumulator (f_Mdl_load (f_Mdl_find T (15 : Int32)).2 (f_Mdl_is T (32 : Int32))).2) ||| (f_Mdl_load (f_Mdl_find T (15 : Int32)).2 (f_Mdl_is T (32 : Int32))).1) (f_Mdl_is T (32 : Int32))).2 (f_Mdl_result (f_Mdl_load (f_Mdl_find T (15 : Int32)).2 (f_Mdl_is T (32 : Int32))).2 ((f_Mdl_accumulator (f_Mdl_load (f_Mdl_find T (15 : Int32)).2 (f_Mdl_is T (32 : Int32))).2) ||| (f_Mdl_load (f_Mdl_find T (15 : Int32)).2 (f_Mdl_is T (32 : Int32))).1) (f_Mdl_is T (32 : Int32))).1))) := rfl
  rw [e, fd1_15, if_neg (by decide : ¬ (1 : Int32) = 0)]
theorem o_0F {S T : Sc} (h : RR S T) : KO (f_Prc_useAccumulator S (15 : Int32)) (f_Mdl_arithmetic T (15 : Int32)) := by
  rw [ec_0F, em_0F]
  obtain ⟨f1, f2, f3, f4⟩ := sp_15 h
  obtain ⟨l1, l2, l3⟩ := s_load f2 f3 (WN_A h)
  have lf := (fr_rv (S := (f_Opd_place S 15).2) (c := (f_Opd_place S 15).1) (WN_A h)).trans f4
  have hw := WN_fr h lf
  exact ⟨rfl, rfl, s_setA2 l3 hw (by rw [acc_eq l3, l1])⟩
theorem ec_10 (S : Sc) : f_Prc_branch S (16 : Int32) = if (f_Reg_has (f_Opd_nextByte S).2 (bf ((0 : Int32)).toNatClampNeg)) = (0 : Int32) then (((1 : Int32), (f_Reg_jumpTo (f_Opd_nextByte S).2 (((f_Opd_nextByte S).2.1 7) + (((f_Opd_nextByte S).1).toInt8.toInt32))))) else (((1 : Int32), (f_Opd_nextByte S).2)) := rfl
theorem em_10 (T : Sc) : f_Mdl_jump T (16 : Int32) = if (f_Mdl_is T (128 : Int32)) = (0 : Int32) then (((1 : Int32), (f_Mdl_branch T (1 : Int32)))) else (((1 : Int32), (f_Mdl_branch T (0 : Int32)))) := rfl
theorem o_10 {S T : Sc} (h : RR S T) : KO (f_Prc_branch S (16 : Int32)) (f_Mdl_jump T (16 : Int32)) := by
  rw [ec_10, em_10]
  have e : f_Reg_has (f_Opd_nextByte S).2 (128 : Int32) = f_Mdl_is T (128 : Int32) := has_n h (128 : Int32)
  have eb : bf (0 : Int32).toNatClampNeg = (128 : Int32) := rfl
  rw [eb, e]
  by_cases z : f_Mdl_is T (128 : Int32) = (0 : Int32)
  · rw [if_pos z, if_pos z]; exact ⟨rfl, rfl, (s_br (x := 1) h).1 (by decide)⟩
  · rw [if_neg z, if_neg z]; exact ⟨rfl, rfl, (s_br (x := 0) h).2 rfl⟩
theorem ec_11 (S : Sc) : f_Prc_useAccumulator S (17 : Int32) = ((1 : Int32), (f_Reg_loadA (f_Bus_readValue (f_Opd_place S (17 : Int32)).2 (f_Opd_place S (17 : Int32)).1 (f_Reg_wideA S)).2 ((f_Reg_a (f_Bus_readValue (f_Opd_place S (17 : Int32)).2 (f_Opd_place S (17 : Int32)).1 (f_Reg_wideA S)).2) ||| (f_Bus_readValue (f_Opd_place S (17 : Int32)).2 (f_Opd_place S (17 : Int32)).1 (f_Reg_wideA S)).1))) := rfl
theorem em_11 (T : Sc) : f_Mdl_arithmetic T (17 : Int32) = ((1 : Int32), (f_Mdl_setAccumulator (f_Mdl_result (f_Mdl_load (f_Mdl_find T (17 : Int32)).2 (f_Mdl_is T (32 : Int32))).2 ((f_Mdl_accumulator (f_Mdl_load (f_Mdl_find T (17 : Int32)).2 (f_Mdl_is T (32 : Int32))).2) ||| (f_Mdl_load (f_Mdl_find T (17 : Int32)).2 (f_Mdl_is T (32 : Int32))).1) (f_Mdl_is T (32 : Int32))).2 (f_Mdl_result (f_Mdl_load (f_Mdl_find T (17 : Int32)).2 (f_Mdl_is T (32 : Int32))).2 ((f_Mdl_accumulator (f_Mdl_load (f_Mdl_find T (17 : Int32)).2 (f_Mdl_is T (32 : Int32))).2) ||| (f_Mdl_load (f_Mdl_find T (17 : Int32)).2 (f_Mdl_is T (32 : Int32))).1) (f_Mdl_is T (32 : Int32))).1)) := by
  have e : f_Mdl_arithmetic T (17 : Int32) = if (f_Mdl_find T (17 : Int32)).1 = (0 : Int32) then (((0 : Int32), (f_Mdl_find T (17 : Int32)).2)) else (((1 : Int32), (f_Mdl_setAccumulator (f_Mdl_result (f_Mdl_load (f_Mdl_find T (17 : Int32)).2 (f_Mdl_is T (32 : Int32))).2 ((f_Mdl_accumulator (f_Mdl_load (f_Mdl_find T (17 : Int32)).2 (f_Mdl_is T (32 : Int32))).2) ||| (f_Mdl_load (f_Mdl_find T (17 : Int32)).2 (f_Mdl_is T (32 : Int32))).1) (f_Mdl_is T (32 : Int32))).2 (f_Mdl_result (f_Mdl_load (f_Mdl_find T (17 : Int32)).2 (f_Mdl_is T (32 : Int32))).2 ((f_Mdl_accumulator (f_Mdl_load (f_Mdl_find T (17 : Int32)).2 (f_Mdl_is T (32 : Int32))).2) ||| (f_Mdl_load (f_Mdl_find T (17 : Int32)).2 (f_Mdl_is T (32 : Int32))).1) (f_Mdl_is T (32 : Int32))).1))) := rfl
  rw [e, fd1_17, if_neg (by decide : ¬ (1 : Int32) = 0)]
theorem o_11 {S T : Sc} (h : RR S T) : KO (f_Prc_useAccumulator S (17 : Int32)) (f_Mdl_arithmetic T (17 : Int32)) := by
  rw [ec_11, em_11]
  obtain ⟨f1, f2, f3, f4⟩ := sp_17 h
  obtain ⟨l1, l2, l3⟩ := s_load f2 f3 (WN_A h)
  have lf := (fr_rv (S := (f_Opd_place S 17).2) (c := (f_Opd_place S 17).1) (WN_A h)).trans f4
  have hw := WN_fr h lf
  exact ⟨rfl, rfl, s_setA2 l3 hw (by rw [acc_eq l3, l1])⟩
theorem ec_12 (S : Sc) : f_Prc_useAccumulator S (18 : Int32) = ((1 : Int32), (f_Reg_loadA (f_Bus_readValue (f_Opd_place S (18 : Int32)).2 (f_Opd_place S (18 : Int32)).1 (f_Reg_wideA S)).2 ((f_Reg_a (f_Bus_readValue (f_Opd_place S (18 : Int32)).2 (f_Opd_place S (18 : Int32)).1 (f_Reg_wideA S)).2) ||| (f_Bus_readValue (f_Opd_place S (18 : Int32)).2 (f_Opd_place S (18 : Int32)).1 (f_Reg_wideA S)).1))) := rfl
theorem em_12 (T : Sc) : f_Mdl_arithmetic T (18 : Int32) = ((1 : Int32), (f_Mdl_setAccumulator (f_Mdl_result (f_Mdl_load (f_Mdl_find T (18 : Int32)).2 (f_Mdl_is T (32 : Int32))).2 ((f_Mdl_accumulator (f_Mdl_load (f_Mdl_find T (18 : Int32)).2 (f_Mdl_is T (32 : Int32))).2) ||| (f_Mdl_load (f_Mdl_find T (18 : Int32)).2 (f_Mdl_is T (32 : Int32))).1) (f_Mdl_is T (32 : Int32))).2 (f_Mdl_result (f_Mdl_load (f_Mdl_find T (18 : Int32)).2 (f_Mdl_is T (32 : Int32))).2 ((f_Mdl_accumulator (f_Mdl_load (f_Mdl_find T (18 : Int32)).2 (f_Mdl_is T (32 : Int32))).2) ||| (f_Mdl_load (f_Mdl_find T (18 : Int32)).2 (f_Mdl_is T (32 : Int32))).1) (f_Mdl_is T (32 : Int32))).1)) := by
  have e : f_Mdl_arithmetic T (18 : Int32) = if (f_Mdl_find T (18 : Int32)).1 = (0 : Int32) then (((0 : Int32), (f_Mdl_find T (18 : Int32)).2)) else (((1 : Int32), (f_Mdl_setAccumulator (f_Mdl_result (f_Mdl_load (f_Mdl_find T (18 : Int32)).2 (f_Mdl_is T (32 : Int32))).2 ((f_Mdl_accumulator (f_Mdl_load (f_Mdl_find T (18 : Int32)).2 (f_Mdl_is T (32 : Int32))).2) ||| (f_Mdl_load (f_Mdl_find T (18 : Int32)).2 (f_Mdl_is T (32 : Int32))).1) (f_Mdl_is T (32 : Int32))).2 (f_Mdl_result (f_Mdl_load (f_Mdl_find T (18 : Int32)).2 (f_Mdl_is T (32 : Int32))).2 ((f_Mdl_accumulator (f_Mdl_load (f_Mdl_find T (18 : Int32)).2 (f_Mdl_is T (32 : Int32))).2) ||| (f_Mdl_load (f_Mdl_find T (18 : Int32)).2 (f_Mdl_is T (32 : Int32))).1) (f_Mdl_is T (32 : Int32))).1))) := rfl
  rw [e, fd1_18, if_neg (by decide : ¬ (1 : Int32) = 0)]
theorem o_12 {S T : Sc} (h : RR S T) : KO (f_Prc_useAccumulator S (18 : Int32)) (f_Mdl_arithmetic T (18 : Int32)) := by
  rw [ec_12, em_12]
  obtain ⟨f1, f2, f3, f4⟩ := sp_18 h
  obtain ⟨l1, l2, l3⟩ := s_load f2 f3 (WN_A h)
  have lf := (fr_rv (S := (f_Opd_place S 18).2) (c := (f_Opd_place S 18).1) (WN_A h)).trans f4
  have hw := WN_fr h lf
  exact ⟨rfl, rfl, s_setA2 l3 hw (by rw [acc_eq l3, l1])⟩
theorem ec_13 (S : Sc) : f_Prc_useAccumulator S (19 : Int32) = ((1 : Int32), (f_Reg_loadA (f_Bus_readValue (f_Opd_place S (19 : Int32)).2 (f_Opd_place S (19 : Int32)).1 (f_Reg_wideA S)).2 ((f_Reg_a (f_Bus_readValue (f_Opd_place S (19 : Int32)).2 (f_Opd_place S (19 : Int32)).1 (f_Reg_wideA S)).2) ||| (f_Bus_readValue (f_Opd_place S (19 : Int32)).2 (f_Opd_place S (19 : Int32)).1 (f_Reg_wideA S)).1))) := rfl
theorem em_13 (T : Sc) : f_Mdl_arithmetic T (19 : Int32) = ((1 : Int32), (f_Mdl_setAccumulator (f_Mdl_result (f_Mdl_load (f_Mdl_find T (19 : Int32)).2 (f_Mdl_is T (32 : Int32))).2 ((f_Mdl_accumulator (f_Mdl_load (f_Mdl_find T (19 : Int32)).2 (f_Mdl_is T (32 : Int32))).2) ||| (f_Mdl_load (f_Mdl_find T (19 : Int32)).2 (f_Mdl_is T (32 : Int32))).1) (f_Mdl_is T (32 : Int32))).2 (f_Mdl_result (f_Mdl_load (f_Mdl_find T (19 : Int32)).2 (f_Mdl_is T (32 : Int32))).2 ((f_Mdl_accumulator (f_Mdl_load (f_Mdl_find T (19 : Int32)).2 (f_Mdl_is T (32 : Int32))).2) ||| (f_Mdl_load (f_Mdl_find T (19 : Int32)).2 (f_Mdl_is T (32 : Int32))).1) (f_Mdl_is T (32 : Int32))).1)) := by
  have e : f_Mdl_arithmetic T (19 : Int32) = if (f_Mdl_find T (19 : Int32)).1 = (0 : Int32) then (((0 : Int32), (f_Mdl_find T (19 : Int32)).2)) else (((1 : Int32), (f_Mdl_setAccumulator (f_Mdl_result (f_Mdl_load (f_Mdl_find T (19 : Int32)).2 (f_Mdl_is T (32 : Int32))).2 ((f_Mdl_accumulator (f_Mdl_load (f_Mdl_find T (19 : Int32)).2 (f_Mdl_is T (32 : Int32))).2) ||| (f_Mdl_load (f_Mdl_find T (19 : Int32)).2 (f_Mdl_is T (32 : Int32))).1) (f_Mdl_is T (32 : Int32))).2 (f_Mdl_result (f_Mdl_load (f_Mdl_find T (19 : Int32)).2 (f_Mdl_is T (32 : Int32))).2 ((f_Mdl_accumulator (f_Mdl_load (f_Mdl_find T (19 : Int32)).2 (f_Mdl_is T (32 : Int32))).2) ||| (f_Mdl_load (f_Mdl_find T (19 : Int32)).2 (f_Mdl_is T (32 : Int32))).1) (f_Mdl_is T (32 : Int32))).1))) := rfl
  rw [e, fd1_19, if_neg (by decide : ¬ (1 : Int32) = 0)]
theorem o_13 {S T : Sc} (h : RR S T) : KO (f_Prc_useAccumulator S (19 : Int32)) (f_Mdl_arithmetic T (19 : Int32)) := by
  rw [ec_13, em_13]
  obtain ⟨f1, f2, f3, f4⟩ := sp_19 h
  obtain ⟨l1, l2, l3⟩ := s_load f2 f3 (WN_A h)
  have lf := (fr_rv (S := (f_Opd_place S 19).2) (c := (f_Opd_place S 19).1) (WN_A h)).trans f4
  have hw := WN_fr h lf
  exact ⟨rfl, rfl, s_setA2 l3 hw (by rw [acc_eq l3, l1])⟩
theorem ec_15 (S : Sc) : f_Prc_useAccumulator S (21 : Int32) = ((1 : Int32), (f_Reg_loadA (f_Bus_readValue (f_Opd_place S (21 : Int32)).2 (f_Opd_place S (21 : Int32)).1 (f_Reg_wideA S)).2 ((f_Reg_a (f_Bus_readValue (f_Opd_place S (21 : Int32)).2 (f_Opd_place S (21 : Int32)).1 (f_Reg_wideA S)).2) ||| (f_Bus_readValue (f_Opd_place S (21 : Int32)).2 (f_Opd_place S (21 : Int32)).1 (f_Reg_wideA S)).1))) := rfl
theorem em_15 (T : Sc) : f_Mdl_arithmetic T (21 : Int32) = ((1 : Int32), (f_Mdl_setAccumulator (f_Mdl_result (f_Mdl_load (f_Mdl_find T (21 : Int32)).2 (f_Mdl_is T (32 : Int32))).2 ((f_Mdl_accumulator (f_Mdl_load (f_Mdl_find T (21 : Int32)).2 (f_Mdl_is T (32 : Int32))).2) ||| (f_Mdl_load (f_Mdl_find T (21 : Int32)).2 (f_Mdl_is T (32 : Int32))).1) (f_Mdl_is T (32 : Int32))).2 (f_Mdl_result (f_Mdl_load (f_Mdl_find T (21 : Int32)).2 (f_Mdl_is T (32 : Int32))).2 ((f_Mdl_accumulator (f_Mdl_load (f_Mdl_find T (21 : Int32)).2 (f_Mdl_is T (32 : Int32))).2) ||| (f_Mdl_load (f_Mdl_find T (21 : Int32)).2 (f_Mdl_is T (32 : Int32))).1) (f_Mdl_is T (32 : Int32))).1)) := by
  have e : f_Mdl_arithmetic T (21 : Int32) = if (f_Mdl_find T (21 : Int32)).1 = (0 : Int32) then (((0 : Int32), (f_Mdl_find T (21 : Int32)).2)) else (((1 : Int32), (f_Mdl_setAccumulator (f_Mdl_result (f_Mdl_load (f_Mdl_find T (21 : Int32)).2 (f_Mdl_is T (32 : Int32))).2 ((f_Mdl_accumulator (f_Mdl_load (f_Mdl_find T (21 : Int32)).2 (f_Mdl_is T (32 : Int32))).2) ||| (f_Mdl_load (f_Mdl_find T (21 : Int32)).2 (f_Mdl_is T (32 : Int32))).1) (f_Mdl_is T (32 : Int32))).2 (f_Mdl_result (f_Mdl_load (f_Mdl_find T (21 : Int32)).2 (f_Mdl_is T (32 : Int32))).2 ((f_Mdl_accumulator (f_Mdl_load (f_Mdl_find T (21 : Int32)).2 (f_Mdl_is T (32 : Int32))).2) ||| (f_Mdl_load (f_Mdl_find T (21 : Int32)).2 (f_Mdl_is T (32 : Int32))).1) (f_Mdl_is T (32 : Int32))).1))) := rfl
  rw [e, fd1_21, if_neg (by decide : ¬ (1 : Int32) = 0)]
theorem o_15 {S T : Sc} (h : RR S T) : KO (f_Prc_useAccumulator S (21 : Int32)) (f_Mdl_arithmetic T (21 : Int32)) := by
  rw [ec_15, em_15]
  obtain ⟨f1, f2, f3, f4⟩ := sp_21 h
  obtain ⟨l1, l2, l3⟩ := s_load f2 f3 (WN_A h)
  have lf := (fr_rv (S := (f_Opd_place S 21).2) (c := (f_Opd_place S 21).1) (WN_A h)).trans f4
  have hw := WN_fr h lf
  exact ⟨rfl, rfl, s_setA2 l3 hw (by rw [acc_eq l3, l1])⟩
theorem ec_17 (S : Sc) : f_Prc_useAccumulator S (23 : Int32) = ((1 : Int32), (f_Reg_loadA (f_Bus_readValue (f_Opd_place S (23 : Int32)).2 (f_Opd_place S (23 : Int32)).1 (f_Reg_wideA S)).2 ((f_Reg_a (f_Bus_readValue (f_Opd_place S (23 : Int32)).2 (f_Opd_place S (23 : Int32)).1 (f_Reg_wideA S)).2) ||| (f_Bus_readValue (f_Opd_place S (23 : Int32)).2 (f_Opd_place S (23 : Int32)).1 (f_Reg_wideA S)).1))) := rfl
theorem em_17 (T : Sc) : f_Mdl_arithmetic T (23 : Int32) = ((1 : Int32), (f_Mdl_setAccumulator (f_Mdl_result (f_Mdl_load (f_Mdl_find T (23 : Int32)).2 (f_Mdl_is T (32 : Int32))).2 ((f_Mdl_accumulator (f_Mdl_load (f_Mdl_find T (23 : Int32)).2 (f_Mdl_is T (32 : Int32))).2) ||| (f_Mdl_load (f_Mdl_find T (23 : Int32)).2 (f_Mdl_is T (32 : Int32))).1) (f_Mdl_is T (32 : Int32))).2 (f_Mdl_result (f_Mdl_load (f_Mdl_find T (23 : Int32)).2 (f_Mdl_is T (32 : Int32))).2 ((f_Mdl_accumulator (f_Mdl_load (f_Mdl_find T (23 : Int32)).2 (f_Mdl_is T (32 : Int32))).2) ||| (f_Mdl_load (f_Mdl_find T (23 : Int32)).2 (f_Mdl_is T (32 : Int32))).1) (f_Mdl_is T (32 : Int32))).1)) := by
  have e : f_Mdl_arithmetic T (23 : Int32) = if (f_Mdl_find T (23 : Int32)).1 = (0 : Int32) then (((0 : Int32), (f_Mdl_find T (23 : Int32)).2)) else (((1 : Int32), (f_Mdl_setAccumulator (f_Mdl_result (f_Mdl_load (f_Mdl_find T (23 : Int32)).2 (f_Mdl_is T (32 : Int32))).2 ((f_Mdl_accumulator (f_Mdl_load (f_Mdl_find T (23 : Int32)).2 (f_Mdl_is T (32 : Int32))).2) ||| (f_Mdl_load (f_Mdl_find T (23 : Int32)).2 (f_Mdl_is T (32 : Int32))).1) (f_Mdl_is T (32 : Int32))).2 (f_Mdl_result (f_Mdl_load (f_Mdl_find T (23 : Int32)).2 (f_Mdl_is T (32 : Int32))).2 ((f_Mdl_accumulator (f_Mdl_load (f_Mdl_find T (23 : Int32)).2 (f_Mdl_is T (32 : Int32))).2) ||| (f_Mdl_load (f_Mdl_find T (23 : Int32)).2 (f_Mdl_is T (32 : Int32))).1) (f_Mdl_is T (32 : Int32))).1))) := rfl
  rw [e, fd1_23, if_neg (by decide : ¬ (1 : Int32) = 0)]
theorem o_17 {S T : Sc} (h : RR S T) : KO (f_Prc_useAccumulator S (23 : Int32)) (f_Mdl_arithmetic T (23 : Int32)) := by
  rw [ec_17, em_17]
  obtain ⟨f1, f2, f3, f4⟩ := sp_23 h
  obtain ⟨l1, l2, l3⟩ := s_load f2 f3 (WN_A h)
  have lf := (fr_rv (S := (f_Opd_place S 23).2) (c := (f_Opd_place S 23).1) (WN_A h)).trans f4
  have hw := WN_fr h lf
  exact ⟨rfl, rfl, s_setA2 l3 hw (by rw [acc_eq l3, l1])⟩
theorem ec_18 (S : Sc) : f_Prc_changeFlags S (24 : Int32) = ((1 : Int32), (f_Reg_putFlag S (1 : Int32) (0 : Int32))) := rfl
theorem em_18 (T : Sc) : f_Mdl_other T (24 : Int32) = ((1 : Int32), (f_Mdl_flag T (1 : Int32) (0 : Int32))) := rfl
theorem o_18 {S T : Sc} (h : RR S T) : KO (f_Prc_changeFlags S (24 : Int32)) (f_Mdl_other T (24 : Int32)) := by
  rw [ec_18, em_18]
  exact ⟨rfl, rfl, s_flag h 1 0 (by decide)⟩
theorem ec_19 (S : Sc) : f_Prc_useAccumulator S (25 : Int32) = ((1 : Int32), (f_Reg_loadA (f_Bus_readValue (f_Opd_place S (25 : Int32)).2 (f_Opd_place S (25 : Int32)).1 (f_Reg_wideA S)).2 ((f_Reg_a (f_Bus_readValue (f_Opd_place S (25 : Int32)).2 (f_Opd_place S (25 : Int32)).1 (f_Reg_wideA S)).2) ||| (f_Bus_readValue (f_Opd_place S (25 : Int32)).2 (f_Opd_place S (25 : Int32)).1 (f_Reg_wideA S)).1))) := rfl
theorem em_19 (T : Sc) : f_Mdl_arithmetic T (25 : Int32) = ((1 : Int32), (f_Mdl_setAccumulator (f_Mdl_result (f_Mdl_load (f_Mdl_find T (25 : Int32)).2 (f_Mdl_is T (32 : Int32))).2 ((f_Mdl_accumulator (f_Mdl_load (f_Mdl_find T (25 : Int32)).2 (f_Mdl_is T (32 : Int32))).2) ||| (f_Mdl_load (f_Mdl_find T (25 : Int32)).2 (f_Mdl_is T (32 : Int32))).1) (f_Mdl_is T (32 : Int32))).2 (f_Mdl_result (f_Mdl_load (f_Mdl_find T (25 : Int32)).2 (f_Mdl_is T (32 : Int32))).2 ((f_Mdl_accumulator (f_Mdl_load (f_Mdl_find T (25 : Int32)).2 (f_Mdl_is T (32 : Int32))).2) ||| (f_Mdl_load (f_Mdl_find T (25 : Int32)).2 (f_Mdl_is T (32 : Int32))).1) (f_Mdl_is T (32 : Int32))).1)) := by
  have e : f_Mdl_arithmetic T (25 : Int32) = if (f_Mdl_find T (25 : Int32)).1 = (0 : Int32) then (((0 : Int32), (f_Mdl_find T (25 : Int32)).2)) else (((1 : Int32), (f_Mdl_setAccumulator (f_Mdl_result (f_Mdl_load (f_Mdl_find T (25 : Int32)).2 (f_Mdl_is T (32 : Int32))).2 ((f_Mdl_accumulator (f_Mdl_load (f_Mdl_find T (25 : Int32)).2 (f_Mdl_is T (32 : Int32))).2) ||| (f_Mdl_load (f_Mdl_find T (25 : Int32)).2 (f_Mdl_is T (32 : Int32))).1) (f_Mdl_is T (32 : Int32))).2 (f_Mdl_result (f_Mdl_load (f_Mdl_find T (25 : Int32)).2 (f_Mdl_is T (32 : Int32))).2 ((f_Mdl_accumulator (f_Mdl_load (f_Mdl_find T (25 : Int32)).2 (f_Mdl_is T (32 : Int32))).2) ||| (f_Mdl_load (f_Mdl_find T (25 : Int32)).2 (f_Mdl_is T (32 : Int32))).1) (f_Mdl_is T (32 : Int32))).1))) := rfl
  rw [e, fd1_25, if_neg (by decide : ¬ (1 : Int32) = 0)]
theorem o_19 {S T : Sc} (h : RR S T) : KO (f_Prc_useAccumulator S (25 : Int32)) (f_Mdl_arithmetic T (25 : Int32)) := by
  rw [ec_19, em_19]
  obtain ⟨f1, f2, f3, f4⟩ := sp_25 h
  obtain ⟨l1, l2, l3⟩ := s_load f2 f3 (WN_A h)
  have lf := (fr_rv (S := (f_Opd_place S 25).2) (c := (f_Opd_place S 25).1) (WN_A h)).trans f4
  have hw := WN_fr h lf
  exact ⟨rfl, rfl, s_setA2 l3 hw (by rw [acc_eq l3, l1])⟩
theorem ec_1A (S : Sc) : f_Prc_changeRegister S (26 : Int32) = ((1 : Int32), (f_Reg_loadA (f_Prc_changed S (7 : Int32) (f_Reg_a S) (f_Reg_wideA S)).2 (f_Prc_changed S (7 : Int32) (f_Reg_a S) (f_Reg_wideA S)).1)) := rfl
theorem em_1A (T : Sc) : f_Mdl_change T (26 : Int32) = ((1 : Int32), (f_Mdl_setAccumulator (f_Mdl_changed T (0 : Int32) (f_Mdl_accumulator T) (f_Mdl_is T (32 : Int32))).2 (f_Mdl_changed T (0 : Int32) (f_Mdl_accumulator T) (f_Mdl_is T (32 : Int32))).1)) := rfl
theorem o_1A {S T : Sc} (h : RR S T) : KO (f_Prc_changeRegister S (26 : Int32)) (f_Mdl_change T (26 : Int32)) := by
  rw [ec_1A, em_1A]
  obtain ⟨T2, Ex, q1, q2, q3, q4, -, -⟩ := sc_7 h (WN_A h) (a_rg S)
  rw [← acc_eq h, q1]
  exact ⟨rfl, rfl, s_setA3 q2 (WN_b h q4) (WN_A h) (wA_b q4) q3⟩
theorem ec_1B (S : Sc) : f_Prc_transfer S (27 : Int32) = ((1 : Int32), (pr S 3 (S.1 0))) := rfl
theorem em_1B (T : Sc) : f_Mdl_transfer T (27 : Int32) = ((1 : Int32), (pr T 3 (T.1 0))) := rfl
theorem o_1B {S T : Sc} (h : RR S T) : KO (f_Prc_transfer S (27 : Int32)) (f_Mdl_transfer T (27 : Int32)) := by
  rw [ec_1B, em_1B]
  exact ⟨rfl, rfl, R_3 h (RRe_0 h) (RRr_0 h)⟩
theorem ec_1D (S : Sc) : f_Prc_useAccumulator S (29 : Int32) = ((1 : Int32), (f_Reg_loadA (f_Bus_readValue (f_Opd_place S (29 : Int32)).2 (f_Opd_place S (29 : Int32)).1 (f_Reg_wideA S)).2 ((f_Reg_a (f_Bus_readValue (f_Opd_place S (29 : Int32)).2 (f_Opd_place S (29 : Int32)).1 (f_Reg_wideA S)).2) ||| (f_Bus_readValue (f_Opd_place S (29 : Int32)).2 (f_Opd_place S (29 : Int32)).1 (f_Reg_wideA S)).1))) := rfl
theorem em_1D (T : Sc) : f_Mdl_arithmetic T (29 : Int32) = ((1 : Int32), (f_Mdl_setAccumulator (f_Mdl_result (f_Mdl_load (f_Mdl_find T (29 : Int32)).2 (f_Mdl_is T (32 : Int32))).2 ((f_Mdl_accumulator (f_Mdl_load (f_Mdl_find T (29 : Int32)).2 (f_Mdl_is T (32 : Int32))).2) ||| (f_Mdl_load (f_Mdl_find T (29 : Int32)).2 (f_Mdl_is T (32 : Int32))).1) (f_Mdl_is T (32 : Int32))).2 (f_Mdl_result (f_Mdl_load (f_Mdl_find T (29 : Int32)).2 (f_Mdl_is T (32 : Int32))).2 ((f_Mdl_accumulator (f_Mdl_load (f_Mdl_find T (29 : Int32)).2 (f_Mdl_is T (32 : Int32))).2) ||| (f_Mdl_load (f_Mdl_find T (29 : Int32)).2 (f_Mdl_is T (32 : Int32))).1) (f_Mdl_is T (32 : Int32))).1)) := by
  have e : f_Mdl_arithmetic T (29 : Int32) = if (f_Mdl_find T (29 : Int32)).1 = (0 : Int32) then (((0 : Int32), (f_Mdl_find T (29 : Int32)).2)) else (((1 : Int32), (f_Mdl_setAccumulator (f_Mdl_result (f_Mdl_load (f_Mdl_find T (29 : Int32)).2 (f_Mdl_is T (32 : Int32))).2 ((f_Mdl_accumulator (f_Mdl_load (f_Mdl_find T (29 : Int32)).2 (f_Mdl_is T (32 : Int32))).2) ||| (f_Mdl_load (f_Mdl_find T (29 : Int32)).2 (f_Mdl_is T (32 : Int32))).1) (f_Mdl_is T (32 : Int32))).2 (f_Mdl_result (f_Mdl_load (f_Mdl_find T (29 : Int32)).2 (f_Mdl_is T (32 : Int32))).2 ((f_Mdl_accumulator (f_Mdl_load (f_Mdl_find T (29 : Int32)).2 (f_Mdl_is T (32 : Int32))).2) ||| (f_Mdl_load (f_Mdl_find T (29 : Int32)).2 (f_Mdl_is T (32 : Int32))).1) (f_Mdl_is T (32 : Int32))).1))) := rfl
  rw [e, fd1_29, if_neg (by decide : ¬ (1 : Int32) = 0)]
theorem o_1D {S T : Sc} (h : RR S T) : KO (f_Prc_useAccumulator S (29 : Int32)) (f_Mdl_arithmetic T (29 : Int32)) := by
  rw [ec_1D, em_1D]
  obtain ⟨f1, f2, f3, f4⟩ := sp_29 h
  obtain ⟨l1, l2, l3⟩ := s_load f2 f3 (WN_A h)
  have lf := (fr_rv (S := (f_Opd_place S 29).2) (c := (f_Opd_place S 29).1) (WN_A h)).trans f4
  have hw := WN_fr h lf
  exact ⟨rfl, rfl, s_setA2 l3 hw (by rw [acc_eq l3, l1])⟩
theorem ec_1F (S : Sc) : f_Prc_useAccumulator S (31 : Int32) = ((1 : Int32), (f_Reg_loadA (f_Bus_readValue (f_Opd_place S (31 : Int32)).2 (f_Opd_place S (31 : Int32)).1 (f_Reg_wideA S)).2 ((f_Reg_a (f_Bus_readValue (f_Opd_place S (31 : Int32)).2 (f_Opd_place S (31 : Int32)).1 (f_Reg_wideA S)).2) ||| (f_Bus_readValue (f_Opd_place S (31 : Int32)).2 (f_Opd_place S (31 : Int32)).1 (f_Reg_wideA S)).1))) := rfl
theorem em_1F (T : Sc) : f_Mdl_arithmetic T (31 : Int32) = ((1 : Int32), (f_Mdl_setAccumulator (f_Mdl_result (f_Mdl_load (f_Mdl_find T (31 : Int32)).2 (f_Mdl_is T (32 : Int32))).2 ((f_Mdl_accumulator (f_Mdl_load (f_Mdl_find T (31 : Int32)).2 (f_Mdl_is T (32 : Int32))).2) ||| (f_Mdl_load (f_Mdl_find T (31 : Int32)).2 (f_Mdl_is T (32 : Int32))).1) (f_Mdl_is T (32 : Int32))).2 (f_Mdl_result (f_Mdl_load (f_Mdl_find T (31 : Int32)).2 (f_Mdl_is T (32 : Int32))).2 ((f_Mdl_accumulator (f_Mdl_load (f_Mdl_find T (31 : Int32)).2 (f_Mdl_is T (32 : Int32))).2) ||| (f_Mdl_load (f_Mdl_find T (31 : Int32)).2 (f_Mdl_is T (32 : Int32))).1) (f_Mdl_is T (32 : Int32))).1)) := by
  have e : f_Mdl_arithmetic T (31 : Int32) = if (f_Mdl_find T (31 : Int32)).1 = (0 : Int32) then (((0 : Int32), (f_Mdl_find T (31 : Int32)).2)) else (((1 : Int32), (f_Mdl_setAccumulator (f_Mdl_result (f_Mdl_load (f_Mdl_find T (31 : Int32)).2 (f_Mdl_is T (32 : Int32))).2 ((f_Mdl_accumulator (f_Mdl_load (f_Mdl_find T (31 : Int32)).2 (f_Mdl_is T (32 : Int32))).2) ||| (f_Mdl_load (f_Mdl_find T (31 : Int32)).2 (f_Mdl_is T (32 : Int32))).1) (f_Mdl_is T (32 : Int32))).2 (f_Mdl_result (f_Mdl_load (f_Mdl_find T (31 : Int32)).2 (f_Mdl_is T (32 : Int32))).2 ((f_Mdl_accumulator (f_Mdl_load (f_Mdl_find T (31 : Int32)).2 (f_Mdl_is T (32 : Int32))).2) ||| (f_Mdl_load (f_Mdl_find T (31 : Int32)).2 (f_Mdl_is T (32 : Int32))).1) (f_Mdl_is T (32 : Int32))).1))) := rfl
  rw [e, fd1_31, if_neg (by decide : ¬ (1 : Int32) = 0)]
theorem o_1F {S T : Sc} (h : RR S T) : KO (f_Prc_useAccumulator S (31 : Int32)) (f_Mdl_arithmetic T (31 : Int32)) := by
  rw [ec_1F, em_1F]
  obtain ⟨f1, f2, f3, f4⟩ := sp_31 h
  obtain ⟨l1, l2, l3⟩ := s_load f2 f3 (WN_A h)
  have lf := (fr_rv (S := (f_Opd_place S 31).2) (c := (f_Opd_place S 31).1) (WN_A h)).trans f4
  have hw := WN_fr h lf
  exact ⟨rfl, rfl, s_setA2 l3 hw (by rw [acc_eq l3, l1])⟩
theorem ec_20 (S : Sc) : f_Prc_jump S (32 : Int32) = ((1 : Int32), (f_Reg_jumpTo (f_Stk_pushWord (f_Opd_nextWord S).2 ((((f_Opd_nextWord S).2.1 7) - (1 : Int32)) &&& (65535 : Int32))) (f_Opd_nextWord S).1)) := rfl
theorem em_20 (T : Sc) : f_Mdl_jump T (32 : Int32) = ((1 : Int32), (f_Mdl_call (f_Mdl_nextWord T).2 (f_Mdl_nextWord T).1)) := rfl
theorem o_20 {S T : Sc} (h : RR S T) : KO (f_Prc_jump S (32 : Int32)) (f_Mdl_jump T (32 : Int32)) := by
  rw [ec_20, em_20]
  obtain ⟨a1, a2, a3⟩ := s_nw h
  rw [call_eq]
  exact ⟨rfl, rfl, s_jump (s_pushW2 a3 (by rw [RRe_7 a3])) (by rw [a1])⟩
theorem ec_21 (S : Sc) : f_Prc_useAccumulator S (33 : Int32) = ((1 : Int32), (f_Reg_loadA (f_Bus_readValue (f_Opd_place S (1 : Int32)).2 (f_Opd_place S (1 : Int32)).1 (f_Reg_wideA S)).2 ((f_Reg_a (f_Bus_readValue (f_Opd_place S (1 : Int32)).2 (f_Opd_place S (1 : Int32)).1 (f_Reg_wideA S)).2) &&& (f_Bus_readValue (f_Opd_place S (1 : Int32)).2 (f_Opd_place S (1 : Int32)).1 (f_Reg_wideA S)).1))) := rfl
theorem em_21 (T : Sc) : f_Mdl_arithmetic T (33 : Int32) = ((1 : Int32), (f_Mdl_setAccumulator (f_Mdl_result (f_Mdl_load (f_Mdl_find T (1 : Int32)).2 (f_Mdl_is T (32 : Int32))).2 ((f_Mdl_accumulator (f_Mdl_load (f_Mdl_find T (1 : Int32)).2 (f_Mdl_is T (32 : Int32))).2) &&& (f_Mdl_load (f_Mdl_find T (1 : Int32)).2 (f_Mdl_is T (32 : Int32))).1) (f_Mdl_is T (32 : Int32))).2 (f_Mdl_result (f_Mdl_load (f_Mdl_find T (1 : Int32)).2 (f_Mdl_is T (32 : Int32))).2 ((f_Mdl_accumulator (f_Mdl_load (f_Mdl_find T (1 : Int32)).2 (f_Mdl_is T (32 : Int32))).2) &&& (f_Mdl_load (f_Mdl_find T (1 : Int32)).2 (f_Mdl_is T (32 : Int32))).1) (f_Mdl_is T (32 : Int32))).1)) := by
  have e : f_Mdl_arithmetic T (33 : Int32) = if (f_Mdl_find T (1 : Int32)).1 = (0 : Int32) then (((0 : Int32), (f_Mdl_find T (1 : Int32)).2)) else (((1 : Int32), (f_Mdl_setAccumulator (f_Mdl_result (f_Mdl_load (f_Mdl_find T (1 : Int32)).2 (f_Mdl_is T (32 : Int32))).2 ((f_Mdl_accumulator (f_Mdl_load (f_Mdl_find T (1 : Int32)).2 (f_Mdl_is T (32 : Int32))).2) &&& (f_Mdl_load (f_Mdl_find T (1 : Int32)).2 (f_Mdl_is T (32 : Int32))).1) (f_Mdl_is T (32 : Int32))).2 (f_Mdl_result (f_Mdl_load (f_Mdl_find T (1 : Int32)).2 (f_Mdl_is T (32 : Int32))).2 ((f_Mdl_accumulator (f_Mdl_load (f_Mdl_find T (1 : Int32)).2 (f_Mdl_is T (32 : Int32))).2) &&& (f_Mdl_load (f_Mdl_find T (1 : Int32)).2 (f_Mdl_is T (32 : Int32))).1) (f_Mdl_is T (32 : Int32))).1))) := rfl
  rw [e, fd1_1, if_neg (by decide : ¬ (1 : Int32) = 0)]
theorem o_21 {S T : Sc} (h : RR S T) : KO (f_Prc_useAccumulator S (33 : Int32)) (f_Mdl_arithmetic T (33 : Int32)) := by
  rw [ec_21, em_21]
  obtain ⟨f1, f2, f3, f4⟩ := sp_1 h
  obtain ⟨l1, l2, l3⟩ := s_load f2 f3 (WN_A h)
  have lf := (fr_rv (S := (f_Opd_place S 1).2) (c := (f_Opd_place S 1).1) (WN_A h)).trans f4
  have hw := WN_fr h lf
  exact ⟨rfl, rfl, s_setA2 l3 hw (by rw [acc_eq l3, l1])⟩
theorem ec_22 (S : Sc) : f_Prc_jump S (34 : Int32) = ((1 : Int32), (f_Reg_jumpLong (f_Stk_pushWord (f_Stk_pushByte (f_Opd_nextLong S).2 ((f_Opd_nextLong S).2.1 6)) ((((f_Stk_pushByte (f_Opd_nextLong S).2 ((f_Opd_nextLong S).2.1 6)).1 7) - (1 : Int32)) &&& (65535 : Int32))) (f_Opd_nextLong S).1)) := rfl
theorem em_22 (T : Sc) : f_Mdl_jump T (34 : Int32) = ((1 : Int32), (pr (f_Mdl_call (f_Mdl_push (f_Mdl_nextLong T).2 ((f_Mdl_nextLong T).2.1 7)) (f_Mdl_nextLong T).1) 7 (((f_Mdl_nextLong T).1 >>> ((16 : Int32) &&& 31))))) := rfl
theorem o_22 {S T : Sc} (h : RR S T) : KO (f_Prc_jump S (34 : Int32)) (f_Mdl_jump T (34 : Int32)) := by
  rw [ec_22, em_22]
  obtain ⟨a1, a2, a3⟩ := s_nl h
  have b := s_push (b := (f_Opd_nextLong S).2.1 6) (b2 := (f_Mdl_nextLong T).2.1 7) a3 (by rw [RRe_6 a3])
  have c := s_pushW2 (v := ((f_Stk_pushByte (f_Opd_nextLong S).2 ((f_Opd_nextLong S).2.1 6)).1 7 - 1) &&& 65535) (v2 := ((f_Mdl_push (f_Mdl_nextLong T).2 ((f_Mdl_nextLong T).2.1 7)).1 8 - 1) &&& 65535) b (by rw [RRe_7 b])
  rw [call_eq]
  exact ⟨rfl, rfl, R_87 c (by rw [a1]) (sh16_8 a2) (by rw [a1]) (m16 _)⟩
theorem ec_23 (S : Sc) : f_Prc_useAccumulator S (35 : Int32) = ((1 : Int32), (f_Reg_loadA (f_Bus_readValue (f_Opd_place S (3 : Int32)).2 (f_Opd_place S (3 : Int32)).1 (f_Reg_wideA S)).2 ((f_Reg_a (f_Bus_readValue (f_Opd_place S (3 : Int32)).2 (f_Opd_place S (3 : Int32)).1 (f_Reg_wideA S)).2) &&& (f_Bus_readValue (f_Opd_place S (3 : Int32)).2 (f_Opd_place S (3 : Int32)).1 (f_Reg_wideA S)).1))) := rfl
theorem em_23 (T : Sc) : f_Mdl_arithmetic T (35 : Int32) = ((1 : Int32), (f_Mdl_setAccumulator (f_Mdl_result (f_Mdl_load (f_Mdl_find T (3 : Int32)).2 (f_Mdl_is T (32 : Int32))).2 ((f_Mdl_accumulator (f_Mdl_load (f_Mdl_find T (3 : Int32)).2 (f_Mdl_is T (32 : Int32))).2) &&& (f_Mdl_load (f_Mdl_find T (3 : Int32)).2 (f_Mdl_is T (32 : Int32))).1) (f_Mdl_is T (32 : Int32))).2 (f_Mdl_result (f_Mdl_load (f_Mdl_find T (3 : Int32)).2 (f_Mdl_is T (32 : Int32))).2 ((f_Mdl_accumulator (f_Mdl_load (f_Mdl_find T (3 : Int32)).2 (f_Mdl_is T (32 : Int32))).2) &&& (f_Mdl_load (f_Mdl_find T (3 : Int32)).2 (f_Mdl_is T (32 : Int32))).1) (f_Mdl_is T (32 : Int32))).1)) := by
  have e : f_Mdl_arithmetic T (35 : Int32) = if (f_Mdl_find T (3 : Int32)).1 = (0 : Int32) then (((0 : Int32), (f_Mdl_find T (3 : Int32)).2)) else (((1 : Int32), (f_Mdl_setAccumulator (f_Mdl_result (f_Mdl_load (f_Mdl_find T (3 : Int32)).2 (f_Mdl_is T (32 : Int32))).2 ((f_Mdl_accumulator (f_Mdl_load (f_Mdl_find T (3 : Int32)).2 (f_Mdl_is T (32 : Int32))).2) &&& (f_Mdl_load (f_Mdl_find T (3 : Int32)).2 (f_Mdl_is T (32 : Int32))).1) (f_Mdl_is T (32 : Int32))).2 (f_Mdl_result (f_Mdl_load (f_Mdl_find T (3 : Int32)).2 (f_Mdl_is T (32 : Int32))).2 ((f_Mdl_accumulator (f_Mdl_load (f_Mdl_find T (3 : Int32)).2 (f_Mdl_is T (32 : Int32))).2) &&& (f_Mdl_load (f_Mdl_find T (3 : Int32)).2 (f_Mdl_is T (32 : Int32))).1) (f_Mdl_is T (32 : Int32))).1))) := rfl
  rw [e, fd1_3, if_neg (by decide : ¬ (1 : Int32) = 0)]
theorem o_23 {S T : Sc} (h : RR S T) : KO (f_Prc_useAccumulator S (35 : Int32)) (f_Mdl_arithmetic T (35 : Int32)) := by
  rw [ec_23, em_23]
  obtain ⟨f1, f2, f3, f4⟩ := sp_3 h
  obtain ⟨l1, l2, l3⟩ := s_load f2 f3 (WN_A h)
  have lf := (fr_rv (S := (f_Opd_place S 3).2) (c := (f_Opd_place S 3).1) (WN_A h)).trans f4
  have hw := WN_fr h lf
  exact ⟨rfl, rfl, s_setA2 l3 hw (by rw [acc_eq l3, l1])⟩
theorem ec_25 (S : Sc) : f_Prc_useAccumulator S (37 : Int32) = ((1 : Int32), (f_Reg_loadA (f_Bus_readValue (f_Opd_place S (5 : Int32)).2 (f_Opd_place S (5 : Int32)).1 (f_Reg_wideA S)).2 ((f_Reg_a (f_Bus_readValue (f_Opd_place S (5 : Int32)).2 (f_Opd_place S (5 : Int32)).1 (f_Reg_wideA S)).2) &&& (f_Bus_readValue (f_Opd_place S (5 : Int32)).2 (f_Opd_place S (5 : Int32)).1 (f_Reg_wideA S)).1))) := rfl
theorem em_25 (T : Sc) : f_Mdl_arithmetic T (37 : Int32) = ((1 : Int32), (f_Mdl_setAccumulator (f_Mdl_result (f_Mdl_load (f_Mdl_find T (5 : Int32)).2 (f_Mdl_is T (32 : Int32))).2 ((f_Mdl_accumulator (f_Mdl_load (f_Mdl_find T (5 : Int32)).2 (f_Mdl_is T (32 : Int32))).2) &&& (f_Mdl_load (f_Mdl_find T (5 : Int32)).2 (f_Mdl_is T (32 : Int32))).1) (f_Mdl_is T (32 : Int32))).2 (f_Mdl_result (f_Mdl_load (f_Mdl_find T (5 : Int32)).2 (f_Mdl_is T (32 : Int32))).2 ((f_Mdl_accumulator (f_Mdl_load (f_Mdl_find T (5 : Int32)).2 (f_Mdl_is T (32 : Int32))).2) &&& (f_Mdl_load (f_Mdl_find T (5 : Int32)).2 (f_Mdl_is T (32 : Int32))).1) (f_Mdl_is T (32 : Int32))).1)) := by
  have e : f_Mdl_arithmetic T (37 : Int32) = if (f_Mdl_find T (5 : Int32)).1 = (0 : Int32) then (((0 : Int32), (f_Mdl_find T (5 : Int32)).2)) else (((1 : Int32), (f_Mdl_setAccumulator (f_Mdl_result (f_Mdl_load (f_Mdl_find T (5 : Int32)).2 (f_Mdl_is T (32 : Int32))).2 ((f_Mdl_accumulator (f_Mdl_load (f_Mdl_find T (5 : Int32)).2 (f_Mdl_is T (32 : Int32))).2) &&& (f_Mdl_load (f_Mdl_find T (5 : Int32)).2 (f_Mdl_is T (32 : Int32))).1) (f_Mdl_is T (32 : Int32))).2 (f_Mdl_result (f_Mdl_load (f_Mdl_find T (5 : Int32)).2 (f_Mdl_is T (32 : Int32))).2 ((f_Mdl_accumulator (f_Mdl_load (f_Mdl_find T (5 : Int32)).2 (f_Mdl_is T (32 : Int32))).2) &&& (f_Mdl_load (f_Mdl_find T (5 : Int32)).2 (f_Mdl_is T (32 : Int32))).1) (f_Mdl_is T (32 : Int32))).1))) := rfl
  rw [e, fd1_5, if_neg (by decide : ¬ (1 : Int32) = 0)]
theorem o_25 {S T : Sc} (h : RR S T) : KO (f_Prc_useAccumulator S (37 : Int32)) (f_Mdl_arithmetic T (37 : Int32)) := by
  rw [ec_25, em_25]
  obtain ⟨f1, f2, f3, f4⟩ := sp_5 h
  obtain ⟨l1, l2, l3⟩ := s_load f2 f3 (WN_A h)
  have lf := (fr_rv (S := (f_Opd_place S 5).2) (c := (f_Opd_place S 5).1) (WN_A h)).trans f4
  have hw := WN_fr h lf
  exact ⟨rfl, rfl, s_setA2 l3 hw (by rw [acc_eq l3, l1])⟩
theorem ec_26 (S : Sc) : f_Prc_changeMemory S (38 : Int32) = ((1 : Int32), (f_Bus_writeValue (f_Reg_showResult (f_Prc_changed (f_Bus_readValue (f_Opd_place S (5 : Int32)).2 (f_Opd_place S (5 : Int32)).1 (f_Reg_wideA S)).2 (1 : Int32) (f_Bus_readValue (f_Opd_place S (5 : Int32)).2 (f_Opd_place S (5 : Int32)).1 (f_Reg_wideA S)).1 (f_Reg_wideA S)).2 (f_Prc_changed (f_Bus_readValue (f_Opd_place S (5 : Int32)).2 (f_Opd_place S (5 : Int32)).1 (f_Reg_wideA S)).2 (1 : Int32) (f_Bus_readValue (f_Opd_place S (5 : Int32)).2 (f_Opd_place S (5 : Int32)).1 (f_Reg_wideA S)).1 (f_Reg_wideA S)).1 (f_Reg_wideA S)) (f_Opd_place S (5 : Int32)).1 (f_Prc_changed (f_Bus_readValue (f_Opd_place S (5 : Int32)).2 (f_Opd_place S (5 : Int32)).1 (f_Reg_wideA S)).2 (1 : Int32) (f_Bus_readValue (f_Opd_place S (5 : Int32)).2 (f_Opd_place S (5 : Int32)).1 (f_Reg_wideA S)).1 (f_Reg_wideA S)).1 (f_Reg_wideA S))) := rfl
theorem em_26 (T : Sc) : f_Mdl_change T (38 : Int32) = ((1 : Int32), (f_Mdl_changeMemory T (3 : Int32) (0 : Int32))) := rfl
theorem o_26 {S T : Sc} (h : RR S T) : KO (f_Prc_changeMemory S (38 : Int32)) (f_Mdl_change T (38 : Int32)) := by
  rw [ec_26, em_26]
  exact ⟨rfl, rfl, s_cm h 5 0 (Or.inl ⟨rfl, rfl⟩) (cm0 T 3) (fun {S T : Sc} {v w n : Int32} => sc_1)⟩
theorem ec_27 (S : Sc) : f_Prc_useAccumulator S (39 : Int32) = ((1 : Int32), (f_Reg_loadA (f_Bus_readValue (f_Opd_place S (7 : Int32)).2 (f_Opd_place S (7 : Int32)).1 (f_Reg_wideA S)).2 ((f_Reg_a (f_Bus_readValue (f_Opd_place S (7 : Int32)).2 (f_Opd_place S (7 : Int32)).1 (f_Reg_wideA S)).2) &&& (f_Bus_readValue (f_Opd_place S (7 : Int32)).2 (f_Opd_place S (7 : Int32)).1 (f_Reg_wideA S)).1))) := rfl
theorem em_27 (T : Sc) : f_Mdl_arithmetic T (39 : Int32) = ((1 : Int32), (f_Mdl_setAccumulator (f_Mdl_result (f_Mdl_load (f_Mdl_find T (7 : Int32)).2 (f_Mdl_is T (32 : Int32))).2 ((f_Mdl_accumulator (f_Mdl_load (f_Mdl_find T (7 : Int32)).2 (f_Mdl_is T (32 : Int32))).2) &&& (f_Mdl_load (f_Mdl_find T (7 : Int32)).2 (f_Mdl_is T (32 : Int32))).1) (f_Mdl_is T (32 : Int32))).2 (f_Mdl_result (f_Mdl_load (f_Mdl_find T (7 : Int32)).2 (f_Mdl_is T (32 : Int32))).2 ((f_Mdl_accumulator (f_Mdl_load (f_Mdl_find T (7 : Int32)).2 (f_Mdl_is T (32 : Int32))).2) &&& (f_Mdl_load (f_Mdl_find T (7 : Int32)).2 (f_Mdl_is T (32 : Int32))).1) (f_Mdl_is T (32 : Int32))).1)) := by
  have e : f_Mdl_arithmetic T (39 : Int32) = if (f_Mdl_find T (7 : Int32)).1 = (0 : Int32) then (((0 : Int32), (f_Mdl_find T (7 : Int32)).2)) else (((1 : Int32), (f_Mdl_setAccumulator (f_Mdl_result (f_Mdl_load (f_Mdl_find T (7 : Int32)).2 (f_Mdl_is T (32 : Int32))).2 ((f_Mdl_accumulator (f_Mdl_load (f_Mdl_find T (7 : Int32)).2 (f_Mdl_is T (32 : Int32))).2) &&& (f_Mdl_load (f_Mdl_find T (7 : Int32)).2 (f_Mdl_is T (32 : Int32))).1) (f_Mdl_is T (32 : Int32))).2 (f_Mdl_result (f_Mdl_load (f_Mdl_find T (7 : Int32)).2 (f_Mdl_is T (32 : Int32))).2 ((f_Mdl_accumulator (f_Mdl_load (f_Mdl_find T (7 : Int32)).2 (f_Mdl_is T (32 : Int32))).2) &&& (f_Mdl_load (f_Mdl_find T (7 : Int32)).2 (f_Mdl_is T (32 : Int32))).1) (f_Mdl_is T (32 : Int32))).1))) := rfl
  rw [e, fd1_7, if_neg (by decide : ¬ (1 : Int32) = 0)]
theorem o_27 {S T : Sc} (h : RR S T) : KO (f_Prc_useAccumulator S (39 : Int32)) (f_Mdl_arithmetic T (39 : Int32)) := by
  rw [ec_27, em_27]
  obtain ⟨f1, f2, f3, f4⟩ := sp_7 h
  obtain ⟨l1, l2, l3⟩ := s_load f2 f3 (WN_A h)
  have lf := (fr_rv (S := (f_Opd_place S 7).2) (c := (f_Opd_place S 7).1) (WN_A h)).trans f4
  have hw := WN_fr h lf
  exact ⟨rfl, rfl, s_setA2 l3 hw (by rw [acc_eq l3, l1])⟩
theorem ec_28 (S : Sc) : f_Prc_pull S (40 : Int32) = ((1 : Int32), (f_Reg_replaceP (f_Stk_pullByte S).2 (f_Stk_pullByte S).1)) := rfl
theorem em_28 (T : Sc) : f_Mdl_stack T (40 : Int32) = ((1 : Int32), (f_Mdl_setFlags (f_Mdl_pull T).2 (f_Mdl_pull T).1)) := rfl
theorem o_28 {S T : Sc} (h : RR S T) : KO (f_Prc_pull S (40 : Int32)) (f_Mdl_stack T (40 : Int32)) := by
  rw [ec_28, em_28]
  obtain ⟨a1, a2, a3⟩ := s_pull h
  exact ⟨rfl, rfl, s_setP a3 (by rw [← a1]; exact a2.symm)⟩
theorem ec_29 (S : Sc) : f_Prc_useAccumulator S (41 : Int32) = ((1 : Int32), (f_Reg_loadA (f_Opd_nextValue S (f_Reg_wideA S)).2 ((f_Reg_a (f_Opd_nextValue S (f_Reg_wideA S)).2) &&& (f_Opd_nextValue S (f_Reg_wideA S)).1))) := rfl
theorem em_29 (T : Sc) : f_Mdl_arithmetic T (41 : Int32) = ((1 : Int32), (f_Mdl_setAccumulator (f_Mdl_result (f_Mdl_immediate T (f_Mdl_is T (32 : Int32))).2 ((f_Mdl_accumulator (f_Mdl_immediate T (f_Mdl_is T (32 : Int32))).2) &&& (f_Mdl_immediate T (f_Mdl_is T (32 : Int32))).1) (f_Mdl_is T (32 : Int32))).2 (f_Mdl_result (f_Mdl_immediate T (f_Mdl_is T (32 : Int32))).2 ((f_Mdl_accumulator (f_Mdl_immediate T (f_Mdl_is T (32 : Int32))).2) &&& (f_Mdl_immediate T (f_Mdl_is T (32 : Int32))).1) (f_Mdl_is T (32 : Int32))).1)) := rfl
theorem o_29 {S T : Sc} (h : RR S T) : KO (f_Prc_useAccumulator S (41 : Int32)) (f_Mdl_arithmetic T (41 : Int32)) := by
  rw [ec_29, em_29]
  obtain ⟨l1, l2, l3⟩ := s_nv h (WN_A h)
  have lf := fr_nv (S := S) (WN_A h)
  have hw := WN_fr h lf
  exact ⟨rfl, rfl, s_setA2 l3 hw (by rw [acc_eq l3, l1])⟩
theorem ec_2A (S : Sc) : f_Prc_changeRegister S (42 : Int32) = ((1 : Int32), (f_Reg_loadA (f_Prc_changed S (1 : Int32) (f_Reg_a S) (f_Reg_wideA S)).2 (f_Prc_changed S (1 : Int32) (f_Reg_a S) (f_Reg_wideA S)).1)) := rfl
theorem em_2A (T : Sc) : f_Mdl_change T (42 : Int32) = ((1 : Int32), (f_Mdl_setAccumulator (f_Mdl_changed T (3 : Int32) (f_Mdl_accumulator T) (f_Mdl_is T (32 : Int32))).2 (f_Mdl_changed T (3 : Int32) (f_Mdl_accumulator T) (f_Mdl_is T (32 : Int32))).1)) := rfl
theorem o_2A {S T : Sc} (h : RR S T) : KO (f_Prc_changeRegister S (42 : Int32)) (f_Mdl_change T (42 : Int32)) := by
  rw [ec_2A, em_2A]
  obtain ⟨T2, Ex, q1, q2, q3, q4, -, -⟩ := sc_1 h (WN_A h) (a_rg S)
  rw [← acc_eq h, q1]
  exact ⟨rfl, rfl, s_setA3 q2 (WN_b h q4) (WN_A h) (wA_b q4) q3⟩
theorem ec_2B (S : Sc) : f_Prc_pull S (43 : Int32) = ((1 : Int32), (f_Reg_loadD (f_Stk_pullWord S).2 (f_Stk_pullWord S).1)) := rfl
theorem em_2B (T : Sc) : f_Mdl_stack T (43 : Int32) = ((1 : Int32), (pr (f_Mdl_pullOf T (0 : Int32)).2 4 ((f_Mdl_pullOf T (0 : Int32)).1))) := rfl
theorem o_2B {S T : Sc} (h : RR S T) : KO (f_Prc_pull S (43 : Int32)) (f_Mdl_stack T (43 : Int32)) := by
  rw [ec_2B, em_2B]
  obtain ⟨a1, a2, a3⟩ := s_pullW h
  have k := s_loadD a3 a2
  rw [a1] at k
  rw [pf0, a1]
  exact ⟨rfl, rfl, k⟩
theorem ec_2D (S : Sc) : f_Prc_useAccumulator S (45 : Int32) = ((1 : Int32), (f_Reg_loadA (f_Bus_readValue (f_Opd_place S (13 : Int32)).2 (f_Opd_place S (13 : Int32)).1 (f_Reg_wideA S)).2 ((f_Reg_a (f_Bus_readValue (f_Opd_place S (13 : Int32)).2 (f_Opd_place S (13 : Int32)).1 (f_Reg_wideA S)).2) &&& (f_Bus_readValue (f_Opd_place S (13 : Int32)).2 (f_Opd_place S (13 : Int32)).1 (f_Reg_wideA S)).1))) := rfl
theorem em_2D (T : Sc) : f_Mdl_arithmetic T (45 : Int32) = ((1 : Int32), (f_Mdl_setAccumulator (f_Mdl_result (f_Mdl_load (f_Mdl_find T (13 : Int32)).2 (f_Mdl_is T (32 : Int32))).2 ((f_Mdl_accumulator (f_Mdl_load (f_Mdl_find T (13 : Int32)).2 (f_Mdl_is T (32 : Int32))).2) &&& (f_Mdl_load (f_Mdl_find T (13 : Int32)).2 (f_Mdl_is T (32 : Int32))).1) (f_Mdl_is T (32 : Int32))).2 (f_Mdl_result (f_Mdl_load (f_Mdl_find T (13 : Int32)).2 (f_Mdl_is T (32 : Int32))).2 ((f_Mdl_accumulator (f_Mdl_load (f_Mdl_find T (13 : Int32)).2 (f_Mdl_is T (32 : Int32))).2) &&& (f_Mdl_load (f_Mdl_find T (13 : Int32)).2 (f_Mdl_is T (32 : Int32))).1) (f_Mdl_is T (32 : Int32))).1)) := by
  have e : f_Mdl_arithmetic T (45 : Int32) = if (f_Mdl_find T (13 : Int32)).1 = (0 : Int32) then (((0 : Int32), (f_Mdl_find T (13 : Int32)).2)) else (((1 : Int32), (f_Mdl_setAccumulator (f_Mdl_result (f_Mdl_load (f_Mdl_find T (13 : Int32)).2 (f_Mdl_is T (32 : Int32))).2 ((f_Mdl_accumulator (f_Mdl_load (f_Mdl_find T (13 : Int32)).2 (f_Mdl_is T (32 : Int32))).2) &&& (f_Mdl_load (f_Mdl_find T (13 : Int32)).2 (f_Mdl_is T (32 : Int32))).1) (f_Mdl_is T (32 : Int32))).2 (f_Mdl_result (f_Mdl_load (f_Mdl_find T (13 : Int32)).2 (f_Mdl_is T (32 : Int32))).2 ((f_Mdl_accumulator (f_Mdl_load (f_Mdl_find T (13 : Int32)).2 (f_Mdl_is T (32 : Int32))).2) &&& (f_Mdl_load (f_Mdl_find T (13 : Int32)).2 (f_Mdl_is T (32 : Int32))).1) (f_Mdl_is T (32 : Int32))).1))) := rfl
  rw [e, fd1_13, if_neg (by decide : ¬ (1 : Int32) = 0)]
theorem o_2D {S T : Sc} (h : RR S T) : KO (f_Prc_useAccumulator S (45 : Int32)) (f_Mdl_arithmetic T (45 : Int32)) := by
  rw [ec_2D, em_2D]
  obtain ⟨f1, f2, f3, f4⟩ := sp_13 h
  obtain ⟨l1, l2, l3⟩ := s_load f2 f3 (WN_A h)
  have lf := (fr_rv (S := (f_Opd_place S 13).2) (c := (f_Opd_place S 13).1) (WN_A h)).trans f4
  have hw := WN_fr h lf
  exact ⟨rfl, rfl, s_setA2 l3 hw (by rw [acc_eq l3, l1])⟩
theorem ec_2F (S : Sc) : f_Prc_useAccumulator S (47 : Int32) = ((1 : Int32), (f_Reg_loadA (f_Bus_readValue (f_Opd_place S (15 : Int32)).2 (f_Opd_place S (15 : Int32)).1 (f_Reg_wideA S)).2 ((f_Reg_a (f_Bus_readValue (f_Opd_place S (15 : Int32)).2 (f_Opd_place S (15 : Int32)).1 (f_Reg_wideA S)).2) &&& (f_Bus_readValue (f_Opd_place S (15 : Int32)).2 (f_Opd_place S (15 : Int32)).1 (f_Reg_wideA S)).1))) := rfl
theorem em_2F (T : Sc) : f_Mdl_arithmetic T (47 : Int32) = ((1 : Int32), (f_Mdl_setAccumulator (f_Mdl_result (f_Mdl_load (f_Mdl_find T (15 : Int32)).2 (f_Mdl_is T (32 : Int32))).2 ((f_Mdl_accumulator (f_Mdl_load (f_Mdl_find T (15 : Int32)).2 (f_Mdl_is T (32 : Int32))).2) &&& (f_Mdl_load (f_Mdl_find T (15 : Int32)).2 (f_Mdl_is T (32 : Int32))).1) (f_Mdl_is T (32 : Int32))).2 (f_Mdl_result (f_Mdl_load (f_Mdl_find T (15 : Int32)).2 (f_Mdl_is T (32 : Int32))).2 ((f_Mdl_accumulator (f_Mdl_load (f_Mdl_find T (15 : Int32)).2 (f_Mdl_is T (32 : Int32))).2) &&& (f_Mdl_load (f_Mdl_find T (15 : Int32)).2 (f_Mdl_is T (32 : Int32))).1) (f_Mdl_is T (32 : Int32))).1)) := by
  have e : f_Mdl_arithmetic T (47 : Int32) = if (f_Mdl_find T (15 : Int32)).1 = (0 : Int32) then (((0 : Int32), (f_Mdl_find T (15 : Int32)).2)) else (((1 : Int32), (f_Mdl_setAccumulator (f_Mdl_result (f_Mdl_load (f_Mdl_find T (15 : Int32)).2 (f_Mdl_is T (32 : Int32))).2 ((f_Mdl_accumulator (f_Mdl_load (f_Mdl_find T (15 : Int32)).2 (f_Mdl_is T (32 : Int32))).2) &&& (f_Mdl_load (f_Mdl_find T (15 : Int32)).2 (f_Mdl_is T (32 : Int32))).1) (f_Mdl_is T (32 : Int32))).2 (f_Mdl_result (f_Mdl_load (f_Mdl_find T (15 : Int32)).2 (f_Mdl_is T (32 : Int32))).2 ((f_Mdl_accumulator (f_Mdl_load (f_Mdl_find T (15 : Int32)).2 (f_Mdl_is T (32 : Int32))).2) &&& (f_Mdl_load (f_Mdl_find T (15 : Int32)).2 (f_Mdl_is T (32 : Int32))).1) (f_Mdl_is T (32 : Int32))).1))) := rfl
  rw [e, fd1_15, if_neg (by decide : ¬ (1 : Int32) = 0)]
theorem o_2F {S T : Sc} (h : RR S T) : KO (f_Prc_useAccumulator S (47 : Int32)) (f_Mdl_arithmetic T (47 : Int32)) := by
  rw [ec_2F, em_2F]
  obtain ⟨f1, f2, f3, f4⟩ := sp_15 h
  obtain ⟨l1, l2, l3⟩ := s_load f2 f3 (WN_A h)
  have lf := (fr_rv (S := (f_Opd_place S 15).2) (c := (f_Opd_place S 15).1) (WN_A h)).trans f4
  have hw := WN_fr h lf
  exact ⟨rfl, rfl, s_setA2 l3 hw (by rw [acc_eq l3, l1])⟩
theorem ec_30 (S : Sc) : f_Prc_branch S (48 : Int32) = if (f_Reg_has (f_Opd_nextByte S).2 (bf ((0 : Int32)).toNatClampNeg)) = (1 : Int32) then (((1 : Int32), (f_Reg_jumpTo (f_Opd_nextByte S).2 (((f_Opd_nextByte S).2.1 7) + (((f_Opd_nextByte S).1).toInt8.toInt32))))) else (((1 : Int32), (f_Opd_nextByte S).2)) := rfl
theorem em_30 (T : Sc) : f_Mdl_jump T (48 : Int32) = ((1 : Int32), (f_Mdl_branch T (f_Mdl_is T (128 : Int32)))) := rfl
theorem o_30 {S T : Sc} (h : RR S T) : KO (f_Prc_branch S (48 : Int32)) (f_Mdl_jump T (48 : Int32)) := by
  rw [ec_30, em_30]
  have e : f_Reg_has (f_Opd_nextByte S).2 (128 : Int32) = f_Mdl_is T (128 : Int32) := has_n h (128 : Int32)
  have eb : bf (0 : Int32).toNatClampNeg = (128 : Int32) := rfl
  rw [eb, e]
  have b := s_br (x := f_Mdl_is T 128) h
  by_cases z : f_Mdl_is T (128 : Int32) = (1 : Int32)
  · rw [if_pos z]; exact ⟨rfl, rfl, b.1 (by rw [z]; decide)⟩
  · rw [if_neg z]; exact ⟨rfl, rfl, b.2 (is_01 z)⟩
theorem ec_31 (S : Sc) : f_Prc_useAccumulator S (49 : Int32) = ((1 : Int32), (f_Reg_loadA (f_Bus_readValue (f_Opd_place S (17 : Int32)).2 (f_Opd_place S (17 : Int32)).1 (f_Reg_wideA S)).2 ((f_Reg_a (f_Bus_readValue (f_Opd_place S (17 : Int32)).2 (f_Opd_place S (17 : Int32)).1 (f_Reg_wideA S)).2) &&& (f_Bus_readValue (f_Opd_place S (17 : Int32)).2 (f_Opd_place S (17 : Int32)).1 (f_Reg_wideA S)).1))) := rfl
theorem em_31 (T : Sc) : f_Mdl_arithmetic T (49 : Int32) = ((1 : Int32), (f_Mdl_setAccumulator (f_Mdl_result (f_Mdl_load (f_Mdl_find T (17 : Int32)).2 (f_Mdl_is T (32 : Int32))).2 ((f_Mdl_accumulator (f_Mdl_load (f_Mdl_find T (17 : Int32)).2 (f_Mdl_is T (32 : Int32))).2) &&& (f_Mdl_load (f_Mdl_find T (17 : Int32)).2 (f_Mdl_is T (32 : Int32))).1) (f_Mdl_is T (32 : Int32))).2 (f_Mdl_result (f_Mdl_load (f_Mdl_find T (17 : Int32)).2 (f_Mdl_is T (32 : Int32))).2 ((f_Mdl_accumulator (f_Mdl_load (f_Mdl_find T (17 : Int32)).2 (f_Mdl_is T (32 : Int32))).2) &&& (f_Mdl_load (f_Mdl_find T (17 : Int32)).2 (f_Mdl_is T (32 : Int32))).1) (f_Mdl_is T (32 : Int32))).1)) := by
  have e : f_Mdl_arithmetic T (49 : Int32) = if (f_Mdl_find T (17 : Int32)).1 = (0 : Int32) then (((0 : Int32), (f_Mdl_find T (17 : Int32)).2)) else (((1 : Int32), (f_Mdl_setAccumulator (f_Mdl_result (f_Mdl_load (f_Mdl_find T (17 : Int32)).2 (f_Mdl_is T (32 : Int32))).2 ((f_Mdl_accumulator (f_Mdl_load (f_Mdl_find T (17 : Int32)).2 (f_Mdl_is T (32 : Int32))).2) &&& (f_Mdl_load (f_Mdl_find T (17 : Int32)).2 (f_Mdl_is T (32 : Int32))).1) (f_Mdl_is T (32 : Int32))).2 (f_Mdl_result (f_Mdl_load (f_Mdl_find T (17 : Int32)).2 (f_Mdl_is T (32 : Int32))).2 ((f_Mdl_accumulator (f_Mdl_load (f_Mdl_find T (17 : Int32)).2 (f_Mdl_is T (32 : Int32))).2) &&& (f_Mdl_load (f_Mdl_find T (17 : Int32)).2 (f_Mdl_is T (32 : Int32))).1) (f_Mdl_is T (32 : Int32))).1))) := rfl
  rw [e, fd1_17, if_neg (by decide : ¬ (1 : Int32) = 0)]
theorem o_31 {S T : Sc} (h : RR S T) : KO (f_Prc_useAccumulator S (49 : Int32)) (f_Mdl_arithmetic T (49 : Int32)) := by
  rw [ec_31, em_31]
  obtain ⟨f1, f2, f3, f4⟩ := sp_17 h
  obtain ⟨l1, l2, l3⟩ := s_load f2 f3 (WN_A h)
  have lf := (fr_rv (S := (f_Opd_place S 17).2) (c := (f_Opd_place S 17).1) (WN_A h)).trans f4
  have hw := WN_fr h lf
  exact ⟨rfl, rfl, s_setA2 l3 hw (by rw [acc_eq l3, l1])⟩
theorem ec_32 (S : Sc) : f_Prc_useAccumulator S (50 : Int32) = ((1 : Int32), (f_Reg_loadA (f_Bus_readValue (f_Opd_place S (18 : Int32)).2 (f_Opd_place S (18 : Int32)).1 (f_Reg_wideA S)).2 ((f_Reg_a (f_Bus_readValue (f_Opd_place S (18 : Int32)).2 (f_Opd_place S (18 : Int32)).1 (f_Reg_wideA S)).2) &&& (f_Bus_readValue (f_Opd_place S (18 : Int32)).2 (f_Opd_place S (18 : Int32)).1 (f_Reg_wideA S)).1))) := rfl
theorem em_32 (T : Sc) : f_Mdl_arithmetic T (50 : Int32) = ((1 : Int32), (f_Mdl_setAccumulator (f_Mdl_result (f_Mdl_load (f_Mdl_find T (18 : Int32)).2 (f_Mdl_is T (32 : Int32))).2 ((f_Mdl_accumulator (f_Mdl_load (f_Mdl_find T (18 : Int32)).2 (f_Mdl_is T (32 : Int32))).2) &&& (f_Mdl_load (f_Mdl_find T (18 : Int32)).2 (f_Mdl_is T (32 : Int32))).1) (f_Mdl_is T (32 : Int32))).2 (f_Mdl_result (f_Mdl_load (f_Mdl_find T (18 : Int32)).2 (f_Mdl_is T (32 : Int32))).2 ((f_Mdl_accumulator (f_Mdl_load (f_Mdl_find T (18 : Int32)).2 (f_Mdl_is T (32 : Int32))).2) &&& (f_Mdl_load (f_Mdl_find T (18 : Int32)).2 (f_Mdl_is T (32 : Int32))).1) (f_Mdl_is T (32 : Int32))).1)) := by
  have e : f_Mdl_arithmetic T (50 : Int32) = if (f_Mdl_find T (18 : Int32)).1 = (0 : Int32) then (((0 : Int32), (f_Mdl_find T (18 : Int32)).2)) else (((1 : Int32), (f_Mdl_setAccumulator (f_Mdl_result (f_Mdl_load (f_Mdl_find T (18 : Int32)).2 (f_Mdl_is T (32 : Int32))).2 ((f_Mdl_accumulator (f_Mdl_load (f_Mdl_find T (18 : Int32)).2 (f_Mdl_is T (32 : Int32))).2) &&& (f_Mdl_load (f_Mdl_find T (18 : Int32)).2 (f_Mdl_is T (32 : Int32))).1) (f_Mdl_is T (32 : Int32))).2 (f_Mdl_result (f_Mdl_load (f_Mdl_find T (18 : Int32)).2 (f_Mdl_is T (32 : Int32))).2 ((f_Mdl_accumulator (f_Mdl_load (f_Mdl_find T (18 : Int32)).2 (f_Mdl_is T (32 : Int32))).2) &&& (f_Mdl_load (f_Mdl_find T (18 : Int32)).2 (f_Mdl_is T (32 : Int32))).1) (f_Mdl_is T (32 : Int32))).1))) := rfl
  rw [e, fd1_18, if_neg (by decide : ¬ (1 : Int32) = 0)]
theorem o_32 {S T : Sc} (h : RR S T) : KO (f_Prc_useAccumulator S (50 : Int32)) (f_Mdl_arithmetic T (50 : Int32)) := by
  rw [ec_32, em_32]
  obtain ⟨f1, f2, f3, f4⟩ := sp_18 h
  obtain ⟨l1, l2, l3⟩ := s_load f2 f3 (WN_A h)
  have lf := (fr_rv (S := (f_Opd_place S 18).2) (c := (f_Opd_place S 18).1) (WN_A h)).trans f4
  have hw := WN_fr h lf
  exact ⟨rfl, rfl, s_setA2 l3 hw (by rw [acc_eq l3, l1])⟩
theorem ec_33 (S : Sc) : f_Prc_useAccumulator S (51 : Int32) = ((1 : Int32), (f_Reg_loadA (f_Bus_readValue (f_Opd_place S (19 : Int32)).2 (f_Opd_place S (19 : Int32)).1 (f_Reg_wideA S)).2 ((f_Reg_a (f_Bus_readValue (f_Opd_place S (19 : Int32)).2 (f_Opd_place S (19 : Int32)).1 (f_Reg_wideA S)).2) &&& (f_Bus_readValue (f_Opd_place S (19 : Int32)).2 (f_Opd_place S (19 : Int32)).1 (f_Reg_wideA S)).1))) := rfl
theorem em_33 (T : Sc) : f_Mdl_arithmetic T (51 : Int32) = ((1 : Int32), (f_Mdl_setAccumulator (f_Mdl_result (f_Mdl_load (f_Mdl_find T (19 : Int32)).2 (f_Mdl_is T (32 : Int32))).2 ((f_Mdl_accumulator (f_Mdl_load (f_Mdl_find T (19 : Int32)).2 (f_Mdl_is T (32 : Int32))).2) &&& (f_Mdl_load (f_Mdl_find T (19 : Int32)).2 (f_Mdl_is T (32 : Int32))).1) (f_Mdl_is T (32 : Int32))).2 (f_Mdl_result (f_Mdl_load (f_Mdl_find T (19 : Int32)).2 (f_Mdl_is T (32 : Int32))).2 ((f_Mdl_accumulator (f_Mdl_load (f_Mdl_find T (19 : Int32)).2 (f_Mdl_is T (32 : Int32))).2) &&& (f_Mdl_load (f_Mdl_find T (19 : Int32)).2 (f_Mdl_is T (32 : Int32))).1) (f_Mdl_is T (32 : Int32))).1)) := by
  have e : f_Mdl_arithmetic T (51 : Int32) = if (f_Mdl_find T (19 : Int32)).1 = (0 : Int32) then (((0 : Int32), (f_Mdl_find T (19 : Int32)).2)) else (((1 : Int32), (f_Mdl_setAccumulator (f_Mdl_result (f_Mdl_load (f_Mdl_find T (19 : Int32)).2 (f_Mdl_is T (32 : Int32))).2 ((f_Mdl_accumulator (f_Mdl_load (f_Mdl_find T (19 : Int32)).2 (f_Mdl_is T (32 : Int32))).2) &&& (f_Mdl_load (f_Mdl_find T (19 : Int32)).2 (f_Mdl_is T (32 : Int32))).1) (f_Mdl_is T (32 : Int32))).2 (f_Mdl_result (f_Mdl_load (f_Mdl_find T (19 : Int32)).2 (f_Mdl_is T (32 : Int32))).2 ((f_Mdl_accumulator (f_Mdl_load (f_Mdl_find T (19 : Int32)).2 (f_Mdl_is T (32 : Int32))).2) &&& (f_Mdl_load (f_Mdl_find T (19 : Int32)).2 (f_Mdl_is T (32 : Int32))).1) (f_Mdl_is T (32 : Int32))).1))) := rfl
  rw [e, fd1_19, if_neg (by decide : ¬ (1 : Int32) = 0)]
theorem o_33 {S T : Sc} (h : RR S T) : KO (f_Prc_useAccumulator S (51 : Int32)) (f_Mdl_arithmetic T (51 : Int32)) := by
  rw [ec_33, em_33]
  obtain ⟨f1, f2, f3, f4⟩ := sp_19 h
  obtain ⟨l1, l2, l3⟩ := s_load f2 f3 (WN_A h)
  have lf := (fr_rv (S := (f_Opd_place S 19).2) (c := (f_Opd_place S 19).1) (WN_A h)).trans f4
  have hw := WN_fr h lf
  exact ⟨rfl, rfl, s_setA2 l3 hw (by rw [acc_eq l3, l1])⟩
theorem ec_35 (S : Sc) : f_Prc_useAccumulator S (53 : Int32) = ((1 : Int32), (f_Reg_loadA (f_Bus_readValue (f_Opd_place S (21 : Int32)).2 (f_Opd_place S (21 : Int32)).1 (f_Reg_wideA S)).2 ((f_Reg_a (f_Bus_readValue (f_Opd_place S (21 : Int32)).2 (f_Opd_place S (21 : Int32)).1 (f_Reg_wideA S)).2) &&& (f_Bus_readValue (f_Opd_place S (21 : Int32)).2 (f_Opd_place S (21 : Int32)).1 (f_Reg_wideA S)).1))) := rfl
theorem em_35 (T : Sc) : f_Mdl_arithmetic T (53 : Int32) = ((1 : Int32), (f_Mdl_setAccumulator (f_Mdl_result (f_Mdl_load (f_Mdl_find T (21 : Int32)).2 (f_Mdl_is T (32 : Int32))).2 ((f_Mdl_accumulator (f_Mdl_load (f_Mdl_find T (21 : Int32)).2 (f_Mdl_is T (32 : Int32))).2) &&& (f_Mdl_load (f_Mdl_find T (21 : Int32)).2 (f_Mdl_is T (32 : Int32))).1) (f_Mdl_is T (32 : Int32))).2 (f_Mdl_result (f_Mdl_load (f_Mdl_find T (21 : Int32)).2 (f_Mdl_is T (32 : Int32))).2 ((f_Mdl_accumulator (f_Mdl_load (f_Mdl_find T (21 : Int32)).2 (f_Mdl_is T (32 : Int32))).2) &&& (f_Mdl_load (f_Mdl_find T (21 : Int32)).2 (f_Mdl_is T (32 : Int32))).1) (f_Mdl_is T (32 : Int32))).1)) := by
  have e : f_Mdl_arithmetic T (53 : Int32) = if (f_Mdl_find T (21 : Int32)).1 = (0 : Int32) then (((0 : Int32), (f_Mdl_find T (21 : Int32)).2)) else (((1 : Int32), (f_Mdl_setAccumulator (f_Mdl_result (f_Mdl_load (f_Mdl_find T (21 : Int32)).2 (f_Mdl_is T (32 : Int32))).2 ((f_Mdl_accumulator (f_Mdl_load (f_Mdl_find T (21 : Int32)).2 (f_Mdl_is T (32 : Int32))).2) &&& (f_Mdl_load (f_Mdl_find T (21 : Int32)).2 (f_Mdl_is T (32 : Int32))).1) (f_Mdl_is T (32 : Int32))).2 (f_Mdl_result (f_Mdl_load (f_Mdl_find T (21 : Int32)).2 (f_Mdl_is T (32 : Int32))).2 ((f_Mdl_accumulator (f_Mdl_load (f_Mdl_find T (21 : Int32)).2 (f_Mdl_is T (32 : Int32))).2) &&& (f_Mdl_load (f_Mdl_find T (21 : Int32)).2 (f_Mdl_is T (32 : Int32))).1) (f_Mdl_is T (32 : Int32))).1))) := rfl
  rw [e, fd1_21, if_neg (by decide : ¬ (1 : Int32) = 0)]
theorem o_35 {S T : Sc} (h : RR S T) : KO (f_Prc_useAccumulator S (53 : Int32)) (f_Mdl_arithmetic T (53 : Int32)) := by
  rw [ec_35, em_35]
  obtain ⟨f1, f2, f3, f4⟩ := sp_21 h
  obtain ⟨l1, l2, l3⟩ := s_load f2 f3 (WN_A h)
  have lf := (fr_rv (S := (f_Opd_place S 21).2) (c := (f_Opd_place S 21).1) (WN_A h)).trans f4
  have hw := WN_fr h lf
  exact ⟨rfl, rfl, s_setA2 l3 hw (by rw [acc_eq l3, l1])⟩
theorem ec_37 (S : Sc) : f_Prc_useAccumulator S (55 : Int32) = ((1 : Int32), (f_Reg_loadA (f_Bus_readValue (f_Opd_place S (23 : Int32)).2 (f_Opd_place S (23 : Int32)).1 (f_Reg_wideA S)).2 ((f_Reg_a (f_Bus_readValue (f_Opd_place S (23 : Int32)).2 (f_Opd_place S (23 : Int32)).1 (f_Reg_wideA S)).2) &&& (f_Bus_readValue (f_Opd_place S (23 : Int32)).2 (f_Opd_place S (23 : Int32)).1 (f_Reg_wideA S)).1))) := rfl
theorem em_37 (T : Sc) : f_Mdl_arithmetic T (55 : Int32) = ((1 : Int32), (f_Mdl_setAccumulator (f_Mdl_result (f_Mdl_load (f_Mdl_find T (23 : Int32)).2 (f_Mdl_is T (32 : Int32))).2 ((f_Mdl_accumulator (f_Mdl_load (f_Mdl_find T (23 : Int32)).2 (f_Mdl_is T (32 : Int32))).2) &&& (f_Mdl_load (f_Mdl_find T (23 : Int32)).2 (f_Mdl_is T (32 : Int32))).1) (f_Mdl_is T (32 : Int32))).2 (f_Mdl_result (f_Mdl_load (f_Mdl_find T (23 : Int32)).2 (f_Mdl_is T (32 : Int32))).2 ((f_Mdl_accumulator (f_Mdl_load (f_Mdl_find T (23 : Int32)).2 (f_Mdl_is T (32 : Int32))).2) &&& (f_Mdl_load (f_Mdl_find T (23 : Int32)).2 (f_Mdl_is T (32 : Int32))).1) (f_Mdl_is T (32 : Int32))).1)) := by
  have e : f_Mdl_arithmetic T (55 : Int32) = if (f_Mdl_find T (23 : Int32)).1 = (0 : Int32) then (((0 : Int32), (f_Mdl_find T (23 : Int32)).2)) else (((1 : Int32), (f_Mdl_setAccumulator (f_Mdl_result (f_Mdl_load (f_Mdl_find T (23 : Int32)).2 (f_Mdl_is T (32 : Int32))).2 ((f_Mdl_accumulator (f_Mdl_load (f_Mdl_find T (23 : Int32)).2 (f_Mdl_is T (32 : Int32))).2) &&& (f_Mdl_load (f_Mdl_find T (23 : Int32)).2 (f_Mdl_is T (32 : Int32))).1) (f_Mdl_is T (32 : Int32))).2 (f_Mdl_result (f_Mdl_load (f_Mdl_find T (23 : Int32)).2 (f_Mdl_is T (32 : Int32))).2 ((f_Mdl_accumulator (f_Mdl_load (f_Mdl_find T (23 : Int32)).2 (f_Mdl_is T (32 : Int32))).2) &&& (f_Mdl_load (f_Mdl_find T (23 : Int32)).2 (f_Mdl_is T (32 : Int32))).1) (f_Mdl_is T (32 : Int32))).1))) := rfl
  rw [e, fd1_23, if_neg (by decide : ¬ (1 : Int32) = 0)]
theorem o_37 {S T : Sc} (h : RR S T) : KO (f_Prc_useAccumulator S (55 : Int32)) (f_Mdl_arithmetic T (55 : Int32)) := by
  rw [ec_37, em_37]
  obtain ⟨f1, f2, f3, f4⟩ := sp_23 h
  obtain ⟨l1, l2, l3⟩ := s_load f2 f3 (WN_A h)
  have lf := (fr_rv (S := (f_Opd_place S 23).2) (c := (f_Opd_place S 23).1) (WN_A h)).trans f4
  have hw := WN_fr h lf
  exact ⟨rfl, rfl, s_setA2 l3 hw (by rw [acc_eq l3, l1])⟩
theorem ec_38 (S : Sc) : f_Prc_changeFlags S (56 : Int32) = ((1 : Int32), (f_Reg_putFlag S (1 : Int32) (1 : Int32))) := rfl
theorem em_38 (T : Sc) : f_Mdl_other T (56 : Int32) = ((1 : Int32), (f_Mdl_flag T (1 : Int32) (1 : Int32))) := rfl
theorem o_38 {S T : Sc} (h : RR S T) : KO (f_Prc_changeFlags S (56 : Int32)) (f_Mdl_other T (56 : Int32)) := by
  rw [ec_38, em_38]
  exact ⟨rfl, rfl, s_flag h 1 1 (by decide)⟩
theorem ec_39 (S : Sc) : f_Prc_useAccumulator S (57 : Int32) = ((1 : Int32), (f_Reg_loadA (f_Bus_readValue (f_Opd_place S (25 : Int32)).2 (f_Opd_place S (25 : Int32)).1 (f_Reg_wideA S)).2 ((f_Reg_a (f_Bus_readValue (f_Opd_place S (25 : Int32)).2 (f_Opd_place S (25 : Int32)).1 (f_Reg_wideA S)).2) &&& (f_Bus_readValue (f_Opd_place S (25 : Int32)).2 (f_Opd_place S (25 : Int32)).1 (f_Reg_wideA S)).1))) := rfl
theorem em_39 (T : Sc) : f_Mdl_arithmetic T (57 : Int32) = ((1 : Int32), (f_Mdl_setAccumulator (f_Mdl_result (f_Mdl_load (f_Mdl_find T (25 : Int32)).2 (f_Mdl_is T (32 : Int32))).2 ((f_Mdl_accumulator (f_Mdl_load (f_Mdl_find T (25 : Int32)).2 (f_Mdl_is T (32 : Int32))).2) &&& (f_Mdl_load (f_Mdl_find T (25 : Int32)).2 (f_Mdl_is T (32 : Int32))).1) (f_Mdl_is T (32 : Int32))).2 (f_Mdl_result (f_Mdl_load (f_Mdl_find T (25 : Int32)).2 (f_Mdl_is T (32 : Int32))).2 ((f_Mdl_accumulator (f_Mdl_load (f_Mdl_find T (25 : Int32)).2 (f_Mdl_is T (32 : Int32))).2) &&& (f_Mdl_load (f_Mdl_find T (25 : Int32)).2 (f_Mdl_is T (32 : Int32))).1) (f_Mdl_is T (32 : Int32))).1)) := by
  have e : f_Mdl_arithmetic T (57 : Int32) = if (f_Mdl_find T (25 : Int32)).1 = (0 : Int32) then (((0 : Int32), (f_Mdl_find T (25 : Int32)).2)) else (((1 : Int32), (f_Mdl_setAccumulator (f_Mdl_result (f_Mdl_load (f_Mdl_find T (25 : Int32)).2 (f_Mdl_is T (32 : Int32))).2 ((f_Mdl_accumulator (f_Mdl_load (f_Mdl_find T (25 : Int32)).2 (f_Mdl_is T (32 : Int32))).2) &&& (f_Mdl_load (f_Mdl_find T (25 : Int32)).2 (f_Mdl_is T (32 : Int32))).1) (f_Mdl_is T (32 : Int32))).2 (f_Mdl_result (f_Mdl_load (f_Mdl_find T (25 : Int32)).2 (f_Mdl_is T (32 : Int32))).2 ((f_Mdl_accumulator (f_Mdl_load (f_Mdl_find T (25 : Int32)).2 (f_Mdl_is T (32 : Int32))).2) &&& (f_Mdl_load (f_Mdl_find T (25 : Int32)).2 (f_Mdl_is T (32 : Int32))).1) (f_Mdl_is T (32 : Int32))).1))) := rfl
  rw [e, fd1_25, if_neg (by decide : ¬ (1 : Int32) = 0)]
theorem o_39 {S T : Sc} (h : RR S T) : KO (f_Prc_useAccumulator S (57 : Int32)) (f_Mdl_arithmetic T (57 : Int32)) := by
  rw [ec_39, em_39]
  obtain ⟨f1, f2, f3, f4⟩ := sp_25 h
  obtain ⟨l1, l2, l3⟩ := s_load f2 f3 (WN_A h)
  have lf := (fr_rv (S := (f_Opd_place S 25).2) (c := (f_Opd_place S 25).1) (WN_A h)).trans f4
  have hw := WN_fr h lf
  exact ⟨rfl, rfl, s_setA2 l3 hw (by rw [acc_eq l3, l1])⟩
theorem ec_3A (S : Sc) : f_Prc_changeRegister S (58 : Int32) = ((1 : Int32), (f_Reg_loadA (f_Prc_changed S (6 : Int32) (f_Reg_a S) (f_Reg_wideA S)).2 (f_Prc_changed S (6 : Int32) (f_Reg_a S) (f_Reg_wideA S)).1)) := rfl
theorem em_3A (T : Sc) : f_Mdl_change T (58 : Int32) = ((1 : Int32), (f_Mdl_setAccumulator (f_Mdl_changed T (1 : Int32) (f_Mdl_accumulator T) (f_Mdl_is T (32 : Int32))).2 (f_Mdl_changed T (1 : Int32) (f_Mdl_accumulator T) (f_Mdl_is T (32 : Int32))).1)) := rfl
theorem o_3A {S T : Sc} (h : RR S T) : KO (f_Prc_changeRegister S (58 : Int32)) (f_Mdl_change T (58 : Int32)) := by
  rw [ec_3A, em_3A]
  obtain ⟨T2, Ex, q1, q2, q3, q4, -, -⟩ := sc_6 h (WN_A h) (a_rg S)
  rw [← acc_eq h, q1]
  exact ⟨rfl, rfl, s_setA3 q2 (WN_b h q4) (WN_A h) (wA_b q4) q3⟩
theorem ec_3B (S : Sc) : f_Prc_transfer S (59 : Int32) = ((1 : Int32), (f_Reg_loadC S (S.1 3))) := rfl
theorem em_3B (T : Sc) : f_Mdl_transfer T (59 : Int32) = ((1 : Int32), (pr (f_Mdl_result T (T.1 3) (0 : Int32)).2 0 ((f_Mdl_result T (T.1 3) (0 : Int32)).1))) := rfl
theorem o_3B {S T : Sc} (h : RR S T) : KO (f_Prc_transfer S (59 : Int32)) (f_Mdl_transfer T (59 : Int32)) := by
  rw [ec_3B, em_3B]
  have k := s_loadC h (RRr_3 h)
  rw [RRe_3 h] at k
  refine ⟨rfl, rfl, ?_⟩
  show RR (f_Reg_loadC S (S.1 3)) _
  rw [RRe_3 h]; exact k
theorem ec_3D (S : Sc) : f_Prc_useAccumulator S (61 : Int32) = ((1 : Int32), (f_Reg_loadA (f_Bus_readValue (f_Opd_place S (29 : Int32)).2 (f_Opd_place S (29 : Int32)).1 (f_Reg_wideA S)).2 ((f_Reg_a (f_Bus_readValue (f_Opd_place S (29 : Int32)).2 (f_Opd_place S (29 : Int32)).1 (f_Reg_wideA S)).2) &&& (f_Bus_readValue (f_Opd_place S (29 : Int32)).2 (f_Opd_place S (29 : Int32)).1 (f_Reg_wideA S)).1))) := rfl
theorem em_3D (T : Sc) : f_Mdl_arithmetic T (61 : Int32) = ((1 : Int32), (f_Mdl_setAccumulator (f_Mdl_result (f_Mdl_load (f_Mdl_find T (29 : Int32)).2 (f_Mdl_is T (32 : Int32))).2 ((f_Mdl_accumulator (f_Mdl_load (f_Mdl_find T (29 : Int32)).2 (f_Mdl_is T (32 : Int32))).2) &&& (f_Mdl_load (f_Mdl_find T (29 : Int32)).2 (f_Mdl_is T (32 : Int32))).1) (f_Mdl_is T (32 : Int32))).2 (f_Mdl_result (f_Mdl_load (f_Mdl_find T (29 : Int32)).2 (f_Mdl_is T (32 : Int32))).2 ((f_Mdl_accumulator (f_Mdl_load (f_Mdl_find T (29 : Int32)).2 (f_Mdl_is T (32 : Int32))).2) &&& (f_Mdl_load (f_Mdl_find T (29 : Int32)).2 (f_Mdl_is T (32 : Int32))).1) (f_Mdl_is T (32 : Int32))).1)) := by
  have e : f_Mdl_arithmetic T (61 : Int32) = if (f_Mdl_find T (29 : Int32)).1 = (0 : Int32) then (((0 : Int32), (f_Mdl_find T (29 : Int32)).2)) else (((1 : Int32), (f_Mdl_setAccumulator (f_Mdl_result (f_Mdl_load (f_Mdl_find T (29 : Int32)).2 (f_Mdl_is T (32 : Int32))).2 ((f_Mdl_accumulator (f_Mdl_load (f_Mdl_find T (29 : Int32)).2 (f_Mdl_is T (32 : Int32))).2) &&& (f_Mdl_load (f_Mdl_find T (29 : Int32)).2 (f_Mdl_is T (32 : Int32))).1) (f_Mdl_is T (32 : Int32))).2 (f_Mdl_result (f_Mdl_load (f_Mdl_find T (29 : Int32)).2 (f_Mdl_is T (32 : Int32))).2 ((f_Mdl_accumulator (f_Mdl_load (f_Mdl_find T (29 : Int32)).2 (f_Mdl_is T (32 : Int32))).2) &&& (f_Mdl_load (f_Mdl_find T (29 : Int32)).2 (f_Mdl_is T (32 : Int32))).1) (f_Mdl_is T (32 : Int32))).1))) := rfl
  rw [e, fd1_29, if_neg (by decide : ¬ (1 : Int32) = 0)]
theorem o_3D {S T : Sc} (h : RR S T) : KO (f_Prc_useAccumulator S (61 : Int32)) (f_Mdl_arithmetic T (61 : Int32)) := by
  rw [ec_3D, em_3D]
  obtain ⟨f1, f2, f3, f4⟩ := sp_29 h
  obtain ⟨l1, l2, l3⟩ := s_load f2 f3 (WN_A h)
  have lf := (fr_rv (S := (f_Opd_place S 29).2) (c := (f_Opd_place S 29).1) (WN_A h)).trans f4
  have hw := WN_fr h lf
  exact ⟨rfl, rfl, s_setA2 l3 hw (by rw [acc_eq l3, l1])⟩
theorem ec_3F (S : Sc) : f_Prc_useAccumulator S (63 : Int32) = ((1 : Int32), (f_Reg_loadA (f_Bus_readValue (f_Opd_place S (31 : Int32)).2 (f_Opd_place S (31 : Int32)).1 (f_Reg_wideA S)).2 ((f_Reg_a (f_Bus_readValue (f_Opd_place S (31 : Int32)).2 (f_Opd_place S (31 : Int32)).1 (f_Reg_wideA S)).2) &&& (f_Bus_readValue (f_Opd_place S (31 : Int32)).2 (f_Opd_place S (31 : Int32)).1 (f_Reg_wideA S)).1))) := rfl
theorem em_3F (T : Sc) : f_Mdl_arithmetic T (63 : Int32) = ((1 : Int32), (f_Mdl_setAccumulator (f_Mdl_result (f_Mdl_load (f_Mdl_find T (31 : Int32)).2 (f_Mdl_is T (32 : Int32))).2 ((f_Mdl_accumulator (f_Mdl_load (f_Mdl_find T (31 : Int32)).2 (f_Mdl_is T (32 : Int32))).2) &&& (f_Mdl_load (f_Mdl_find T (31 : Int32)).2 (f_Mdl_is T (32 : Int32))).1) (f_Mdl_is T (32 : Int32))).2 (f_Mdl_result (f_Mdl_load (f_Mdl_find T (31 : Int32)).2 (f_Mdl_is T (32 : Int32))).2 ((f_Mdl_accumulator (f_Mdl_load (f_Mdl_find T (31 : Int32)).2 (f_Mdl_is T (32 : Int32))).2) &&& (f_Mdl_load (f_Mdl_find T (31 : Int32)).2 (f_Mdl_is T (32 : Int32))).1) (f_Mdl_is T (32 : Int32))).1)) := by
  have e : f_Mdl_arithmetic T (63 : Int32) = if (f_Mdl_find T (31 : Int32)).1 = (0 : Int32) then (((0 : Int32), (f_Mdl_find T (31 : Int32)).2)) else (((1 : Int32), (f_Mdl_setAccumulator (f_Mdl_result (f_Mdl_load (f_Mdl_find T (31 : Int32)).2 (f_Mdl_is T (32 : Int32))).2 ((f_Mdl_accumulator (f_Mdl_load (f_Mdl_find T (31 : Int32)).2 (f_Mdl_is T (32 : Int32))).2) &&& (f_Mdl_load (f_Mdl_find T (31 : Int32)).2 (f_Mdl_is T (32 : Int32))).1) (f_Mdl_is T (32 : Int32))).2 (f_Mdl_result (f_Mdl_load (f_Mdl_find T (31 : Int32)).2 (f_Mdl_is T (32 : Int32))).2 ((f_Mdl_accumulator (f_Mdl_load (f_Mdl_find T (31 : Int32)).2 (f_Mdl_is T (32 : Int32))).2) &&& (f_Mdl_load (f_Mdl_find T (31 : Int32)).2 (f_Mdl_is T (32 : Int32))).1) (f_Mdl_is T (32 : Int32))).1))) := rfl
  rw [e, fd1_31, if_neg (by decide : ¬ (1 : Int32) = 0)]
theorem o_3F {S T : Sc} (h : RR S T) : KO (f_Prc_useAccumulator S (63 : Int32)) (f_Mdl_arithmetic T (63 : Int32)) := by
  rw [ec_3F, em_3F]
  obtain ⟨f1, f2, f3, f4⟩ := sp_31 h
  obtain ⟨l1, l2, l3⟩ := s_load f2 f3 (WN_A h)
  have lf := (fr_rv (S := (f_Opd_place S 31).2) (c := (f_Opd_place S 31).1) (WN_A h)).trans f4
  have hw := WN_fr h lf
  exact ⟨rfl, rfl, s_setA2 l3 hw (by rw [acc_eq l3, l1])⟩
theorem ec_40 (S : Sc) : f_Prc_jump S (64 : Int32) = ((1 : Int32), (pr (f_Stk_pullByte (f_Reg_jumpTo (f_Stk_pullWord (f_Reg_replaceP (f_Stk_pullByte S).2 (f_Stk_pullByte S).1)).2 (f_Stk_pullWord (f_Reg_replaceP (f_Stk_pullByte S).2 (f_Stk_pullByte S).1)).1)).2 6 ((f_Stk_pullByte (f_Reg_jumpTo (f_Stk_pullWord (f_Reg_replaceP (f_Stk_pullByte S).2 (f_Stk_pullByte S).1)).2 (f_Stk_pullWord (f_Reg_replaceP (f_Stk_pullByte S).2 (f_Stk_pullByte S).1)).1)).1))) := rfl
theorem em_40 (T : Sc) : f_Mdl_jump T (64 : Int32) = ((1 : Int32), (pr (f_Mdl_pull (pr (f_Mdl_pullWord (f_Mdl_setFlags (f_Mdl_pull T).2 (f_Mdl_pull T).1)).2 8 ((f_Mdl_pullWord (f_Mdl_setFlags (f_Mdl_pull T).2 (f_Mdl_pull T).1)).1))).2 7 ((f_Mdl_pull (pr (f_Mdl_pullWord (f_Mdl_setFlags (f_Mdl_pull T).2 (f_Mdl_pull T).1)).2 8 ((f_Mdl_pullWord (f_Mdl_setFlags (f_Mdl_pull T).2 (f_Mdl_pull T).1)).1))).1))) := rfl
theorem o_40 {S T : Sc} (h : RR S T) : KO (f_Prc_jump S (64 : Int32)) (f_Mdl_jump T (64 : Int32)) := by
  rw [ec_40, em_40]
  obtain ⟨a1, a2, a3⟩ := s_pull h
  have b := s_setP (v := (f_Stk_pullByte S).1) (v2 := (f_Mdl_pull T).1) a3 (by rw [← a1]; exact a2.symm)
  obtain ⟨c1, c2, c3⟩ := s_pullW b
  have d := s_jump (v := (f_Stk_pullWord (f_Reg_replaceP (f_Stk_pullByte S).2 (f_Stk_pullByte S).1)).1) (v2 := (f_Mdl_pullWord (f_Mdl_setFlags (f_Mdl_pull T).2 (f_Mdl_pull T).1)).1) c3 (c2.trans c1)
  obtain ⟨e1, e2, e3⟩ := s_pull d
  exact ⟨rfl, rfl, R_6 e3 e1 e2⟩
theorem ec_41 (S : Sc) : f_Prc_useAccumulator S (65 : Int32) = ((1 : Int32), (f_Reg_loadA (f_Bus_readValue (f_Opd_place S (1 : Int32)).2 (f_Opd_place S (1 : Int32)).1 (f_Reg_wideA S)).2 ((f_Reg_a (f_Bus_readValue (f_Opd_place S (1 : Int32)).2 (f_Opd_place S (1 : Int32)).1 (f_Reg_wideA S)).2) ^^^ (f_Bus_readValue (f_Opd_place S (1 : Int32)).2 (f_Opd_place S (1 : Int32)).1 (f_Reg_wideA S)).1))) := rfl
theorem em_41 (T : Sc) : f_Mdl_arithmetic T (65 : Int32) = ((1 : Int32), (f_Mdl_setAccumulator (f_Mdl_result (f_Mdl_load (f_Mdl_find T (1 : Int32)).2 (f_Mdl_is T (32 : Int32))).2 ((f_Mdl_accumulator (f_Mdl_load (f_Mdl_find T (1 : Int32)).2 (f_Mdl_is T (32 : Int32))).2) ^^^ (f_Mdl_load (f_Mdl_find T (1 : Int32)).2 (f_Mdl_is T (32 : Int32))).1) (f_Mdl_is T (32 : Int32))).2 (f_Mdl_result (f_Mdl_load (f_Mdl_find T (1 : Int32)).2 (f_Mdl_is T (32 : Int32))).2 ((f_Mdl_accumulator (f_Mdl_load (f_Mdl_find T (1 : Int32)).2 (f_Mdl_is T (32 : Int32))).2) ^^^ (f_Mdl_load (f_Mdl_find T (1 : Int32)).2 (f_Mdl_is T (32 : Int32))).1) (f_Mdl_is T (32 : Int32))).1)) := by
  have e : f_Mdl_arithmetic T (65 : Int32) = if (f_Mdl_find T (1 : Int32)).1 = (0 : Int32) then (((0 : Int32), (f_Mdl_find T (1 : Int32)).2)) else (((1 : Int32), (f_Mdl_setAccumulator (f_Mdl_result (f_Mdl_load (f_Mdl_find T (1 : Int32)).2 (f_Mdl_is T (32 : Int32))).2 ((f_Mdl_accumulator (f_Mdl_load (f_Mdl_find T (1 : Int32)).2 (f_Mdl_is T (32 : Int32))).2) ^^^ (f_Mdl_load (f_Mdl_find T (1 : Int32)).2 (f_Mdl_is T (32 : Int32))).1) (f_Mdl_is T (32 : Int32))).2 (f_Mdl_result (f_Mdl_load (f_Mdl_find T (1 : Int32)).2 (f_Mdl_is T (32 : Int32))).2 ((f_Mdl_accumulator (f_Mdl_load (f_Mdl_find T (1 : Int32)).2 (f_Mdl_is T (32 : Int32))).2) ^^^ (f_Mdl_load (f_Mdl_find T (1 : Int32)).2 (f_Mdl_is T (32 : Int32))).1) (f_Mdl_is T (32 : Int32))).1))) := rfl
  rw [e, fd1_1, if_neg (by decide : ¬ (1 : Int32) = 0)]
theorem o_41 {S T : Sc} (h : RR S T) : KO (f_Prc_useAccumulator S (65 : Int32)) (f_Mdl_arithmetic T (65 : Int32)) := by
  rw [ec_41, em_41]
  obtain ⟨f1, f2, f3, f4⟩ := sp_1 h
  obtain ⟨l1, l2, l3⟩ := s_load f2 f3 (WN_A h)
  have lf := (fr_rv (S := (f_Opd_place S 1).2) (c := (f_Opd_place S 1).1) (WN_A h)).trans f4
  have hw := WN_fr h lf
  exact ⟨rfl, rfl, s_setA2 l3 hw (by rw [acc_eq l3, l1])⟩
theorem ec_43 (S : Sc) : f_Prc_useAccumulator S (67 : Int32) = ((1 : Int32), (f_Reg_loadA (f_Bus_readValue (f_Opd_place S (3 : Int32)).2 (f_Opd_place S (3 : Int32)).1 (f_Reg_wideA S)).2 ((f_Reg_a (f_Bus_readValue (f_Opd_place S (3 : Int32)).2 (f_Opd_place S (3 : Int32)).1 (f_Reg_wideA S)).2) ^^^ (f_Bus_readValue (f_Opd_place S (3 : Int32)).2 (f_Opd_place S (3 : Int32)).1 (f_Reg_wideA S)).1))) := rfl
theorem em_43 (T : Sc) : f_Mdl_arithmetic T (67 : Int32) = ((1 : Int32), (f_Mdl_setAccumulator (f_Mdl_result (f_Mdl_load (f_Mdl_find T (3 : Int32)).2 (f_Mdl_is T (32 : Int32))).2 ((f_Mdl_accumulator (f_Mdl_load (f_Mdl_find T (3 : Int32)).2 (f_Mdl_is T (32 : Int32))).2) ^^^ (f_Mdl_load (f_Mdl_find T (3 : Int32)).2 (f_Mdl_is T (32 : Int32))).1) (f_Mdl_is T (32 : Int32))).2 (f_Mdl_result (f_Mdl_load (f_Mdl_find T (3 : Int32)).2 (f_Mdl_is T (32 : Int32))).2 ((f_Mdl_accumulator (f_Mdl_load (f_Mdl_find T (3 : Int32)).2 (f_Mdl_is T (32 : Int32))).2) ^^^ (f_Mdl_load (f_Mdl_find T (3 : Int32)).2 (f_Mdl_is T (32 : Int32))).1) (f_Mdl_is T (32 : Int32))).1)) := by
  have e : f_Mdl_arithmetic T (67 : Int32) = if (f_Mdl_find T (3 : Int32)).1 = (0 : Int32) then (((0 : Int32), (f_Mdl_find T (3 : Int32)).2)) else (((1 : Int32), (f_Mdl_setAccumulator (f_Mdl_result (f_Mdl_load (f_Mdl_find T (3 : Int32)).2 (f_Mdl_is T (32 : Int32))).2 ((f_Mdl_accumulator (f_Mdl_load (f_Mdl_find T (3 : Int32)).2 (f_Mdl_is T (32 : Int32))).2) ^^^ (f_Mdl_load (f_Mdl_find T (3 : Int32)).2 (f_Mdl_is T (32 : Int32))).1) (f_Mdl_is T (32 : Int32))).2 (f_Mdl_result (f_Mdl_load (f_Mdl_find T (3 : Int32)).2 (f_Mdl_is T (32 : Int32))).2 ((f_Mdl_accumulator (f_Mdl_load (f_Mdl_find T (3 : Int32)).2 (f_Mdl_is T (32 : Int32))).2) ^^^ (f_Mdl_load (f_Mdl_find T (3 : Int32)).2 (f_Mdl_is T (32 : Int32))).1) (f_Mdl_is T (32 : Int32))).1))) := rfl
  rw [e, fd1_3, if_neg (by decide : ¬ (1 : Int32) = 0)]
theorem o_43 {S T : Sc} (h : RR S T) : KO (f_Prc_useAccumulator S (67 : Int32)) (f_Mdl_arithmetic T (67 : Int32)) := by
  rw [ec_43, em_43]
  obtain ⟨f1, f2, f3, f4⟩ := sp_3 h
  obtain ⟨l1, l2, l3⟩ := s_load f2 f3 (WN_A h)
  have lf := (fr_rv (S := (f_Opd_place S 3).2) (c := (f_Opd_place S 3).1) (WN_A h)).trans f4
  have hw := WN_fr h lf
  exact ⟨rfl, rfl, s_setA2 l3 hw (by rw [acc_eq l3, l1])⟩
theorem ec_44 (S : Sc) : f_Prc_moveBlock S (68 : Int32) = if (mvA S).1 0 = (0 : Int32) then (((1 : Int32), (pr (pr (pr (mvA S) 1 (((((mvA S).1 1) + (-1 : Int32)) &&& (f_Reg_indexMask (mvA S))))) 2 (((((mvA S).1 2) + (-1 : Int32)) &&& (f_Reg_indexMask (pr (mvA S) 1 (((((mvA S).1 1) + (-1 : Int32)) &&& (f_Reg_indexMask (mvA S))))))))) 0 (((((mvA S).1 0) - (1 : Int32)) &&& (65535 : Int32)))))) else (((1 : Int32), (pr (f_Reg_jumpTo (pr (pr (mvA S) 1 (((((mvA S).1 1) + (-1 : Int32)) &&& (f_Reg_indexMask (mvA S))))) 2 (((((mvA S).1 2) + (-1 : Int32)) &&& (f_Reg_indexMask (pr (mvA S) 1 (((((mvA S).1 1) + (-1 : Int32)) &&& (f_Reg_indexMask (mvA S))))))))) ((S.1 7) - (1 : Int32))) 0 (((((f_Reg_jumpTo (pr (pr (mvA S) 1 (((((mvA S).1 1) + (-1 : Int32)) &&& (f_Reg_indexMask (mvA S))))) 2 (((((mvA S).1 2) + (-1 : Int32)) &&& (f_Reg_indexMask (pr (mvA S) 1 (((((mvA S).1 1) + (-1 : Int32)) &&& (f_Reg_indexMask (mvA S))))))))) ((S.1 7) - (1 : Int32))).1 0) - (1 : Int32)) &&& (65535 : Int32)))))) := rfl
theorem em_44 (T : Sc) : f_Mdl_other T (68 : Int32) = ((1 : Int32), (f_Mdl_moveBlock T (-1 : Int32))) := rfl
theorem o_44 {S T : Sc} (h : RR S T) : KO (f_Prc_moveBlock S (68 : Int32)) (f_Mdl_other T (68 : Int32)) := by
  rw [ec_44, em_44]
  have b := s_mv (x := (-1)) h
  by_cases z : (mvA S).1 0 = (0 : Int32)
  · rw [if_pos z] at b
    rw [if_pos z]
    exact ⟨rfl, rfl, b⟩
  · rw [if_neg z] at b
    rw [if_neg z, jt_0, pr2_0, pr1_0]
    exact ⟨rfl, rfl, b⟩
theorem ec_45 (S : Sc) : f_Prc_useAccumulator S (69 : Int32) = ((1 : Int32), (f_Reg_loadA (f_Bus_readValue (f_Opd_place S (5 : Int32)).2 (f_Opd_place S (5 : Int32)).1 (f_Reg_wideA S)).2 ((f_Reg_a (f_Bus_readValue (f_Opd_place S (5 : Int32)).2 (f_Opd_place S (5 : Int32)).1 (f_Reg_wideA S)).2) ^^^ (f_Bus_readValue (f_Opd_place S (5 : Int32)).2 (f_Opd_place S (5 : Int32)).1 (f_Reg_wideA S)).1))) := rfl
theorem em_45 (T : Sc) : f_Mdl_arithmetic T (69 : Int32) = ((1 : Int32), (f_Mdl_setAccumulator (f_Mdl_result (f_Mdl_load (f_Mdl_find T (5 : Int32)).2 (f_Mdl_is T (32 : Int32))).2 ((f_Mdl_accumulator (f_Mdl_load (f_Mdl_find T (5 : Int32)).2 (f_Mdl_is T (32 : Int32))).2) ^^^ (f_Mdl_load (f_Mdl_find T (5 : Int32)).2 (f_Mdl_is T (32 : Int32))).1) (f_Mdl_is T (32 : Int32))).2 (f_Mdl_result (f_Mdl_load (f_Mdl_find T (5 : Int32)).2 (f_Mdl_is T (32 : Int32))).2 ((f_Mdl_accumulator (f_Mdl_load (f_Mdl_find T (5 : Int32)).2 (f_Mdl_is T (32 : Int32))).2) ^^^ (f_Mdl_load (f_Mdl_find T (5 : Int32)).2 (f_Mdl_is T (32 : Int32))).1) (f_Mdl_is T (32 : Int32))).1)) := by
  have e : f_Mdl_arithmetic T (69 : Int32) = if (f_Mdl_find T (5 : Int32)).1 = (0 : Int32) then (((0 : Int32), (f_Mdl_find T (5 : Int32)).2)) else (((1 : Int32), (f_Mdl_setAccumulator (f_Mdl_result (f_Mdl_load (f_Mdl_find T (5 : Int32)).2 (f_Mdl_is T (32 : Int32))).2 ((f_Mdl_accumulator (f_Mdl_load (f_Mdl_find T (5 : Int32)).2 (f_Mdl_is T (32 : Int32))).2) ^^^ (f_Mdl_load (f_Mdl_find T (5 : Int32)).2 (f_Mdl_is T (32 : Int32))).1) (f_Mdl_is T (32 : Int32))).2 (f_Mdl_result (f_Mdl_load (f_Mdl_find T (5 : Int32)).2 (f_Mdl_is T (32 : Int32))).2 ((f_Mdl_accumulator (f_Mdl_load (f_Mdl_find T (5 : Int32)).2 (f_Mdl_is T (32 : Int32))).2) ^^^ (f_Mdl_load (f_Mdl_find T (5 : Int32)).2 (f_Mdl_is T (32 : Int32))).1) (f_Mdl_is T (32 : Int32))).1))) := rfl
  rw [e, fd1_5, if_neg (by decide : ¬ (1 : Int32) = 0)]
theorem o_45 {S T : Sc} (h : RR S T) : KO (f_Prc_useAccumulator S (69 : Int32)) (f_Mdl_arithmetic T (69 : Int32)) := by
  rw [ec_45, em_45]
  obtain ⟨f1, f2, f3, f4⟩ := sp_5 h
  obtain ⟨l1, l2, l3⟩ := s_load f2 f3 (WN_A h)
  have lf := (fr_rv (S := (f_Opd_place S 5).2) (c := (f_Opd_place S 5).1) (WN_A h)).trans f4
  have hw := WN_fr h lf
  exact ⟨rfl, rfl, s_setA2 l3 hw (by rw [acc_eq l3, l1])⟩
theorem ec_46 (S : Sc) : f_Prc_changeMemory S (70 : Int32) = ((1 : Int32), (f_Bus_writeValue (f_Reg_showResult (f_Prc_changed (f_Bus_readValue (f_Opd_place S (5 : Int32)).2 (f_Opd_place S (5 : Int32)).1 (f_Reg_wideA S)).2 (2 : Int32) (f_Bus_readValue (f_Opd_place S (5 : Int32)).2 (f_Opd_place S (5 : Int32)).1 (f_Reg_wideA S)).1 (f_Reg_wideA S)).2 (f_Prc_changed (f_Bus_readValue (f_Opd_place S (5 : Int32)).2 (f_Opd_place S (5 : Int32)).1 (f_Reg_wideA S)).2 (2 : Int32) (f_Bus_readValue (f_Opd_place S (5 : Int32)).2 (f_Opd_place S (5 : Int32)).1 (f_Reg_wideA S)).1 (f_Reg_wideA S)).1 (f_Reg_wideA S)) (f_Opd_place S (5 : Int32)).1 (f_Prc_changed (f_Bus_readValue (f_Opd_place S (5 : Int32)).2 (f_Opd_place S (5 : Int32)).1 (f_Reg_wideA S)).2 (2 : Int32) (f_Bus_readValue (f_Opd_place S (5 : Int32)).2 (f_Opd_place S (5 : Int32)).1 (f_Reg_wideA S)).1 (f_Reg_wideA S)).1 (f_Reg_wideA S))) := rfl
theorem em_46 (T : Sc) : f_Mdl_change T (70 : Int32) = ((1 : Int32), (f_Mdl_changeMemory T (4 : Int32) (0 : Int32))) := rfl
theorem o_46 {S T : Sc} (h : RR S T) : KO (f_Prc_changeMemory S (70 : Int32)) (f_Mdl_change T (70 : Int32)) := by
  rw [ec_46, em_46]
  exact ⟨rfl, rfl, s_cm h 5 0 (Or.inl ⟨rfl, rfl⟩) (cm0 T 4) (fun {S T : Sc} {v w n : Int32} => sc_2)⟩
theorem ec_47 (S : Sc) : f_Prc_useAccumulator S (71 : Int32) = ((1 : Int32), (f_Reg_loadA (f_Bus_readValue (f_Opd_place S (7 : Int32)).2 (f_Opd_place S (7 : Int32)).1 (f_Reg_wideA S)).2 ((f_Reg_a (f_Bus_readValue (f_Opd_place S (7 : Int32)).2 (f_Opd_place S (7 : Int32)).1 (f_Reg_wideA S)).2) ^^^ (f_Bus_readValue (f_Opd_place S (7 : Int32)).2 (f_Opd_place S (7 : Int32)).1 (f_Reg_wideA S)).1))) := rfl
theorem em_47 (T : Sc) : f_Mdl_arithmetic T (71 : Int32) = ((1 : Int32), (f_Mdl_setAccumulator (f_Mdl_result (f_Mdl_load (f_Mdl_find T (7 : Int32)).2 (f_Mdl_is T (32 : Int32))).2 ((f_Mdl_accumulator (f_Mdl_load (f_Mdl_find T (7 : Int32)).2 (f_Mdl_is T (32 : Int32))).2) ^^^ (f_Mdl_load (f_Mdl_find T (7 : Int32)).2 (f_Mdl_is T (32 : Int32))).1) (f_Mdl_is T (32 : Int32))).2 (f_Mdl_result (f_Mdl_load (f_Mdl_find T (7 : Int32)).2 (f_Mdl_is T (32 : Int32))).2 ((f_Mdl_accumulator (f_Mdl_load (f_Mdl_find T (7 : Int32)).2 (f_Mdl_is T (32 : Int32))).2) ^^^ (f_Mdl_load (f_Mdl_find T (7 : Int32)).2 (f_Mdl_is T (32 : Int32))).1) (f_Mdl_is T (32 : Int32))).1)) := by
  have e : f_Mdl_arithmetic T (71 : Int32) = if (f_Mdl_find T (7 : Int32)).1 = (0 : Int32) then (((0 : Int32), (f_Mdl_find T (7 : Int32)).2)) else (((1 : Int32), (f_Mdl_setAccumulator (f_Mdl_result (f_Mdl_load (f_Mdl_find T (7 : Int32)).2 (f_Mdl_is T (32 : Int32))).2 ((f_Mdl_accumulator (f_Mdl_load (f_Mdl_find T (7 : Int32)).2 (f_Mdl_is T (32 : Int32))).2) ^^^ (f_Mdl_load (f_Mdl_find T (7 : Int32)).2 (f_Mdl_is T (32 : Int32))).1) (f_Mdl_is T (32 : Int32))).2 (f_Mdl_result (f_Mdl_load (f_Mdl_find T (7 : Int32)).2 (f_Mdl_is T (32 : Int32))).2 ((f_Mdl_accumulator (f_Mdl_load (f_Mdl_find T (7 : Int32)).2 (f_Mdl_is T (32 : Int32))).2) ^^^ (f_Mdl_load (f_Mdl_find T (7 : Int32)).2 (f_Mdl_is T (32 : Int32))).1) (f_Mdl_is T (32 : Int32))).1))) := rfl
  rw [e, fd1_7, if_neg (by decide : ¬ (1 : Int32) = 0)]
theorem o_47 {S T : Sc} (h : RR S T) : KO (f_Prc_useAccumulator S (71 : Int32)) (f_Mdl_arithmetic T (71 : Int32)) := by
  rw [ec_47, em_47]
  obtain ⟨f1, f2, f3, f4⟩ := sp_7 h
  obtain ⟨l1, l2, l3⟩ := s_load f2 f3 (WN_A h)
  have lf := (fr_rv (S := (f_Opd_place S 7).2) (c := (f_Opd_place S 7).1) (WN_A h)).trans f4
  have hw := WN_fr h lf
  exact ⟨rfl, rfl, s_setA2 l3 hw (by rw [acc_eq l3, l1])⟩
theorem ec_48 (S : Sc) : f_Prc_push S (72 : Int32) = ((1 : Int32), (f_Stk_pushValue S (S.1 0) (f_Reg_wideA S))) := rfl
theorem em_48 (T : Sc) : f_Mdl_stack T (72 : Int32) = ((1 : Int32), (f_Mdl_pushOf T (f_Mdl_accumulator T) (f_Mdl_is T (32 : Int32)))) := rfl
theorem o_48 {S T : Sc} (h : RR S T) : KO (f_Prc_push S (72 : Int32)) (f_Mdl_stack T (72 : Int32)) := by
  rw [ec_48, em_48]
  exact ⟨rfl, rfl, s_pushV h (WN_A h) (fun z => acc_w h rfl z) (acc_255 h)⟩
theorem ec_49 (S : Sc) : f_Prc_useAccumulator S (73 : Int32) = ((1 : Int32), (f_Reg_loadA (f_Opd_nextValue S (f_Reg_wideA S)).2 ((f_Reg_a (f_Opd_nextValue S (f_Reg_wideA S)).2) ^^^ (f_Opd_nextValue S (f_Reg_wideA S)).1))) := rfl
theorem em_49 (T : Sc) : f_Mdl_arithmetic T (73 : Int32) = ((1 : Int32), (f_Mdl_setAccumulator (f_Mdl_result (f_Mdl_immediate T (f_Mdl_is T (32 : Int32))).2 ((f_Mdl_accumulator (f_Mdl_immediate T (f_Mdl_is T (32 : Int32))).2) ^^^ (f_Mdl_immediate T (f_Mdl_is T (32 : Int32))).1) (f_Mdl_is T (32 : Int32))).2 (f_Mdl_result (f_Mdl_immediate T (f_Mdl_is T (32 : Int32))).2 ((f_Mdl_accumulator (f_Mdl_immediate T (f_Mdl_is T (32 : Int32))).2) ^^^ (f_Mdl_immediate T (f_Mdl_is T (32 : Int32))).1) (f_Mdl_is T (32 : Int32))).1)) := rfl
theorem o_49 {S T : Sc} (h : RR S T) : KO (f_Prc_useAccumulator S (73 : Int32)) (f_Mdl_arithmetic T (73 : Int32)) := by
  rw [ec_49, em_49]
  obtain ⟨l1, l2, l3⟩ := s_nv h (WN_A h)
  have lf := fr_nv (S := S) (WN_A h)
  have hw := WN_fr h lf
  exact ⟨rfl, rfl, s_setA2 l3 hw (by rw [acc_eq l3, l1])⟩
theorem ec_4A (S : Sc) : f_Prc_changeRegister S (74 : Int32) = ((1 : Int32), (f_Reg_loadA (f_Prc_changed S (2 : Int32) (f_Reg_a S) (f_Reg_wideA S)).2 (f_Prc_changed S (2 : Int32) (f_Reg_a S) (f_Reg_wideA S)).1)) := rfl
theorem em_4A (T : Sc) : f_Mdl_change T (74 : Int32) = ((1 : Int32), (f_Mdl_setAccumulator (f_Mdl_changed T (4 : Int32) (f_Mdl_accumulator T) (f_Mdl_is T (32 : Int32))).2 (f_Mdl_changed T (4 : Int32) (f_Mdl_accumulator T) (f_Mdl_is T (32 : Int32))).1)) := rfl
theorem o_4A {S T : Sc} (h : RR S T) : KO (f_Prc_changeRegister S (74 : Int32)) (f_Mdl_change T (74 : Int32)) := by
  rw [ec_4A, em_4A]
  obtain ⟨T2, Ex, q1, q2, q3, q4, -, -⟩ := sc_2 h (WN_A h) (a_rg S)
  rw [← acc_eq h, q1]
  exact ⟨rfl, rfl, s_setA3 q2 (WN_b h q4) (WN_A h) (wA_b q4) q3⟩
theorem ec_4B (S : Sc) : f_Prc_push S (75 : Int32) = ((1 : Int32), (f_Stk_pushByte S (S.1 6))) := rfl
theorem em_4B (T : Sc) : f_Mdl_stack T (75 : Int32) = ((1 : Int32), (f_Mdl_push T (T.1 7))) := rfl
theorem o_4B {S T : Sc} (h : RR S T) : KO (f_Prc_push S (75 : Int32)) (f_Mdl_stack T (75 : Int32)) := by
  rw [ec_4B, em_4B]
  exact ⟨rfl, rfl, s_push h (by rw [RRe_6 h])⟩
theorem ec_4C (S : Sc) : f_Prc_jump S (76 : Int32) = ((1 : Int32), (f_Reg_jumpTo (f_Opd_nextWord S).2 (f_Opd_nextWord S).1)) := rfl
theorem em_4C (T : Sc) : f_Mdl_jump T (76 : Int32) = ((1 : Int32), (pr (f_Mdl_nextWord T).2 8 ((f_Mdl_nextWord T).1))) := rfl
theorem o_4C {S T : Sc} (h : RR S T) : KO (f_Prc_jump S (76 : Int32)) (f_Mdl_jump T (76 : Int32)) := by
  rw [ec_4C, em_4C]
  obtain ⟨a1, a2, a3⟩ := s_nw h
  exact ⟨rfl, rfl, s_jump a3 (a2.trans a1)⟩
theorem ec_4D (S : Sc) : f_Prc_useAccumulator S (77 : Int32) = ((1 : Int32), (f_Reg_loadA (f_Bus_readValue (f_Opd_place S (13 : Int32)).2 (f_Opd_place S (13 : Int32)).1 (f_Reg_wideA S)).2 ((f_Reg_a (f_Bus_readValue (f_Opd_place S (13 : Int32)).2 (f_Opd_place S (13 : Int32)).1 (f_Reg_wideA S)).2) ^^^ (f_Bus_readValue (f_Opd_place S (13 : Int32)).2 (f_Opd_place S (13 : Int32)).1 (f_Reg_wideA S)).1))) := rfl
theorem em_4D (T : Sc) : f_Mdl_arithmetic T (77 : Int32) = ((1 : Int32), (f_Mdl_setAccumulator (f_Mdl_result (f_Mdl_load (f_Mdl_find T (13 : Int32)).2 (f_Mdl_is T (32 : Int32))).2 ((f_Mdl_accumulator (f_Mdl_load (f_Mdl_find T (13 : Int32)).2 (f_Mdl_is T (32 : Int32))).2) ^^^ (f_Mdl_load (f_Mdl_find T (13 : Int32)).2 (f_Mdl_is T (32 : Int32))).1) (f_Mdl_is T (32 : Int32))).2 (f_Mdl_result (f_Mdl_load (f_Mdl_find T (13 : Int32)).2 (f_Mdl_is T (32 : Int32))).2 ((f_Mdl_accumulator (f_Mdl_load (f_Mdl_find T (13 : Int32)).2 (f_Mdl_is T (32 : Int32))).2) ^^^ (f_Mdl_load (f_Mdl_find T (13 : Int32)).2 (f_Mdl_is T (32 : Int32))).1) (f_Mdl_is T (32 : Int32))).1)) := by
  have e : f_Mdl_arithmetic T (77 : Int32) = if (f_Mdl_find T (13 : Int32)).1 = (0 : Int32) then (((0 : Int32), (f_Mdl_find T (13 : Int32)).2)) else (((1 : Int32), (f_Mdl_setAccumulator (f_Mdl_result (f_Mdl_load (f_Mdl_find T (13 : Int32)).2 (f_Mdl_is T (32 : Int32))).2 ((f_Mdl_accumulator (f_Mdl_load (f_Mdl_find T (13 : Int32)).2 (f_Mdl_is T (32 : Int32))).2) ^^^ (f_Mdl_load (f_Mdl_find T (13 : Int32)).2 (f_Mdl_is T (32 : Int32))).1) (f_Mdl_is T (32 : Int32))).2 (f_Mdl_result (f_Mdl_load (f_Mdl_find T (13 : Int32)).2 (f_Mdl_is T (32 : Int32))).2 ((f_Mdl_accumulator (f_Mdl_load (f_Mdl_find T (13 : Int32)).2 (f_Mdl_is T (32 : Int32))).2) ^^^ (f_Mdl_load (f_Mdl_find T (13 : Int32)).2 (f_Mdl_is T (32 : Int32))).1) (f_Mdl_is T (32 : Int32))).1))) := rfl
  rw [e, fd1_13, if_neg (by decide : ¬ (1 : Int32) = 0)]
theorem o_4D {S T : Sc} (h : RR S T) : KO (f_Prc_useAccumulator S (77 : Int32)) (f_Mdl_arithmetic T (77 : Int32)) := by
  rw [ec_4D, em_4D]
  obtain ⟨f1, f2, f3, f4⟩ := sp_13 h
  obtain ⟨l1, l2, l3⟩ := s_load f2 f3 (WN_A h)
  have lf := (fr_rv (S := (f_Opd_place S 13).2) (c := (f_Opd_place S 13).1) (WN_A h)).trans f4
  have hw := WN_fr h lf
  exact ⟨rfl, rfl, s_setA2 l3 hw (by rw [acc_eq l3, l1])⟩
theorem ec_4F (S : Sc) : f_Prc_useAccumulator S (79 : Int32) = ((1 : Int32), (f_Reg_loadA (f_Bus_readValue (f_Opd_place S (15 : Int32)).2 (f_Opd_place S (15 : Int32)).1 (f_Reg_wideA S)).2 ((f_Reg_a (f_Bus_readValue (f_Opd_place S (15 : Int32)).2 (f_Opd_place S (15 : Int32)).1 (f_Reg_wideA S)).2) ^^^ (f_Bus_readValue (f_Opd_place S (15 : Int32)).2 (f_Opd_place S (15 : Int32)).1 (f_Reg_wideA S)).1))) := rfl
theorem em_4F (T : Sc) : f_Mdl_arithmetic T (79 : Int32) = ((1 : Int32), (f_Mdl_setAccumulator (f_Mdl_result (f_Mdl_load (f_Mdl_find T (15 : Int32)).2 (f_Mdl_is T (32 : Int32))).2 ((f_Mdl_accumulator (f_Mdl_load (f_Mdl_find T (15 : Int32)).2 (f_Mdl_is T (32 : Int32))).2) ^^^ (f_Mdl_load (f_Mdl_find T (15 : Int32)).2 (f_Mdl_is T (32 : Int32))).1) (f_Mdl_is T (32 : Int32))).2 (f_Mdl_result (f_Mdl_load (f_Mdl_find T (15 : Int32)).2 (f_Mdl_is T (32 : Int32))).2 ((f_Mdl_accumulator (f_Mdl_load (f_Mdl_find T (15 : Int32)).2 (f_Mdl_is T (32 : Int32))).2) ^^^ (f_Mdl_load (f_Mdl_find T (15 : Int32)).2 (f_Mdl_is T (32 : Int32))).1) (f_Mdl_is T (32 : Int32))).1)) := by
  have e : f_Mdl_arithmetic T (79 : Int32) = if (f_Mdl_find T (15 : Int32)).1 = (0 : Int32) then (((0 : Int32), (f_Mdl_find T (15 : Int32)).2)) else (((1 : Int32), (f_Mdl_setAccumulator (f_Mdl_result (f_Mdl_load (f_Mdl_find T (15 : Int32)).2 (f_Mdl_is T (32 : Int32))).2 ((f_Mdl_accumulator (f_Mdl_load (f_Mdl_find T (15 : Int32)).2 (f_Mdl_is T (32 : Int32))).2) ^^^ (f_Mdl_load (f_Mdl_find T (15 : Int32)).2 (f_Mdl_is T (32 : Int32))).1) (f_Mdl_is T (32 : Int32))).2 (f_Mdl_result (f_Mdl_load (f_Mdl_find T (15 : Int32)).2 (f_Mdl_is T (32 : Int32))).2 ((f_Mdl_accumulator (f_Mdl_load (f_Mdl_find T (15 : Int32)).2 (f_Mdl_is T (32 : Int32))).2) ^^^ (f_Mdl_load (f_Mdl_find T (15 : Int32)).2 (f_Mdl_is T (32 : Int32))).1) (f_Mdl_is T (32 : Int32))).1))) := rfl
  rw [e, fd1_15, if_neg (by decide : ¬ (1 : Int32) = 0)]
theorem o_4F {S T : Sc} (h : RR S T) : KO (f_Prc_useAccumulator S (79 : Int32)) (f_Mdl_arithmetic T (79 : Int32)) := by
  rw [ec_4F, em_4F]
  obtain ⟨f1, f2, f3, f4⟩ := sp_15 h
  obtain ⟨l1, l2, l3⟩ := s_load f2 f3 (WN_A h)
  have lf := (fr_rv (S := (f_Opd_place S 15).2) (c := (f_Opd_place S 15).1) (WN_A h)).trans f4
  have hw := WN_fr h lf
  exact ⟨rfl, rfl, s_setA2 l3 hw (by rw [acc_eq l3, l1])⟩
theorem ec_50 (S : Sc) : f_Prc_branch S (80 : Int32) = if (f_Reg_has (f_Opd_nextByte S).2 (bf ((1 : Int32)).toNatClampNeg)) = (0 : Int32) then (((1 : Int32), (f_Reg_jumpTo (f_Opd_nextByte S).2 (((f_Opd_nextByte S).2.1 7) + (((f_Opd_nextByte S).1).toInt8.toInt32))))) else (((1 : Int32), (f_Opd_nextByte S).2)) := rfl
theorem em_50 (T : Sc) : f_Mdl_jump T (80 : Int32) = if (f_Mdl_is T (64 : Int32)) = (0 : Int32) then (((1 : Int32), (f_Mdl_branch T (1 : Int32)))) else (((1 : Int32), (f_Mdl_branch T (0 : Int32)))) := rfl
theorem o_50 {S T : Sc} (h : RR S T) : KO (f_Prc_branch S (80 : Int32)) (f_Mdl_jump T (80 : Int32)) := by
  rw [ec_50, em_50]
  have e : f_Reg_has (f_Opd_nextByte S).2 (64 : Int32) = f_Mdl_is T (64 : Int32) := has_n h (64 : Int32)
  have eb : bf (1 : Int32).toNatClampNeg = (64 : Int32) := rfl
  rw [eb, e]
  by_cases z : f_Mdl_is T (64 : Int32) = (0 : Int32)
  · rw [if_pos z, if_pos z]; exact ⟨rfl, rfl, (s_br (x := 1) h).1 (by decide)⟩
  · rw [if_neg z, if_neg z]; exact ⟨rfl, rfl, (s_br (x := 0) h).2 rfl⟩
theorem ec_51 (S : Sc) : f_Prc_useAccumulator S (81 : Int32) = ((1 : Int32), (f_Reg_loadA (f_Bus_readValue (f_Opd_place S (17 : Int32)).2 (f_Opd_place S (17 : Int32)).1 (f_Reg_wideA S)).2 ((f_Reg_a (f_Bus_readValue (f_Opd_place S (17 : Int32)).2 (f_Opd_place S (17 : Int32)).1 (f_Reg_wideA S)).2) ^^^ (f_Bus_readValue (f_Opd_place S (17 : Int32)).2 (f_Opd_place S (17 : Int32)).1 (f_Reg_wideA S)).1))) := rfl
theorem em_51 (T : Sc) : f_Mdl_arithmetic T (81 : Int32) = ((1 : Int32), (f_Mdl_setAccumulator (f_Mdl_result (f_Mdl_load (f_Mdl_find T (17 : Int32)).2 (f_Mdl_is T (32 : Int32))).2 ((f_Mdl_accumulator (f_Mdl_load (f_Mdl_find T (17 : Int32)).2 (f_Mdl_is T (32 : Int32))).2) ^^^ (f_Mdl_load (f_Mdl_find T (17 : Int32)).2 (f_Mdl_is T (32 : Int32))).1) (f_Mdl_is T (32 : Int32))).2 (f_Mdl_result (f_Mdl_load (f_Mdl_find T (17 : Int32)).2 (f_Mdl_is T (32 : Int32))).2 ((f_Mdl_accumulator (f_Mdl_load (f_Mdl_find T (17 : Int32)).2 (f_Mdl_is T (32 : Int32))).2) ^^^ (f_Mdl_load (f_Mdl_find T (17 : Int32)).2 (f_Mdl_is T (32 : Int32))).1) (f_Mdl_is T (32 : Int32))).1)) := by
  have e : f_Mdl_arithmetic T (81 : Int32) = if (f_Mdl_find T (17 : Int32)).1 = (0 : Int32) then (((0 : Int32), (f_Mdl_find T (17 : Int32)).2)) else (((1 : Int32), (f_Mdl_setAccumulator (f_Mdl_result (f_Mdl_load (f_Mdl_find T (17 : Int32)).2 (f_Mdl_is T (32 : Int32))).2 ((f_Mdl_accumulator (f_Mdl_load (f_Mdl_find T (17 : Int32)).2 (f_Mdl_is T (32 : Int32))).2) ^^^ (f_Mdl_load (f_Mdl_find T (17 : Int32)).2 (f_Mdl_is T (32 : Int32))).1) (f_Mdl_is T (32 : Int32))).2 (f_Mdl_result (f_Mdl_load (f_Mdl_find T (17 : Int32)).2 (f_Mdl_is T (32 : Int32))).2 ((f_Mdl_accumulator (f_Mdl_load (f_Mdl_find T (17 : Int32)).2 (f_Mdl_is T (32 : Int32))).2) ^^^ (f_Mdl_load (f_Mdl_find T (17 : Int32)).2 (f_Mdl_is T (32 : Int32))).1) (f_Mdl_is T (32 : Int32))).1))) := rfl
  rw [e, fd1_17, if_neg (by decide : ¬ (1 : Int32) = 0)]
theorem o_51 {S T : Sc} (h : RR S T) : KO (f_Prc_useAccumulator S (81 : Int32)) (f_Mdl_arithmetic T (81 : Int32)) := by
  rw [ec_51, em_51]
  obtain ⟨f1, f2, f3, f4⟩ := sp_17 h
  obtain ⟨l1, l2, l3⟩ := s_load f2 f3 (WN_A h)
  have lf := (fr_rv (S := (f_Opd_place S 17).2) (c := (f_Opd_place S 17).1) (WN_A h)).trans f4
  have hw := WN_fr h lf
  exact ⟨rfl, rfl, s_setA2 l3 hw (by rw [acc_eq l3, l1])⟩
theorem ec_52 (S : Sc) : f_Prc_useAccumulator S (82 : Int32) = ((1 : Int32), (f_Reg_loadA (f_Bus_readValue (f_Opd_place S (18 : Int32)).2 (f_Opd_place S (18 : Int32)).1 (f_Reg_wideA S)).2 ((f_Reg_a (f_Bus_readValue (f_Opd_place S (18 : Int32)).2 (f_Opd_place S (18 : Int32)).1 (f_Reg_wideA S)).2) ^^^ (f_Bus_readValue (f_Opd_place S (18 : Int32)).2 (f_Opd_place S (18 : Int32)).1 (f_Reg_wideA S)).1))) := rfl
theorem em_52 (T : Sc) : f_Mdl_arithmetic T (82 : Int32) = ((1 : Int32), (f_Mdl_setAccumulator (f_Mdl_result (f_Mdl_load (f_Mdl_find T (18 : Int32)).2 (f_Mdl_is T (32 : Int32))).2 ((f_Mdl_accumulator (f_Mdl_load (f_Mdl_find T (18 : Int32)).2 (f_Mdl_is T (32 : Int32))).2) ^^^ (f_Mdl_load (f_Mdl_find T (18 : Int32)).2 (f_Mdl_is T (32 : Int32))).1) (f_Mdl_is T (32 : Int32))).2 (f_Mdl_result (f_Mdl_load (f_Mdl_find T (18 : Int32)).2 (f_Mdl_is T (32 : Int32))).2 ((f_Mdl_accumulator (f_Mdl_load (f_Mdl_find T (18 : Int32)).2 (f_Mdl_is T (32 : Int32))).2) ^^^ (f_Mdl_load (f_Mdl_find T (18 : Int32)).2 (f_Mdl_is T (32 : Int32))).1) (f_Mdl_is T (32 : Int32))).1)) := by
  have e : f_Mdl_arithmetic T (82 : Int32) = if (f_Mdl_find T (18 : Int32)).1 = (0 : Int32) then (((0 : Int32), (f_Mdl_find T (18 : Int32)).2)) else (((1 : Int32), (f_Mdl_setAccumulator (f_Mdl_result (f_Mdl_load (f_Mdl_find T (18 : Int32)).2 (f_Mdl_is T (32 : Int32))).2 ((f_Mdl_accumulator (f_Mdl_load (f_Mdl_find T (18 : Int32)).2 (f_Mdl_is T (32 : Int32))).2) ^^^ (f_Mdl_load (f_Mdl_find T (18 : Int32)).2 (f_Mdl_is T (32 : Int32))).1) (f_Mdl_is T (32 : Int32))).2 (f_Mdl_result (f_Mdl_load (f_Mdl_find T (18 : Int32)).2 (f_Mdl_is T (32 : Int32))).2 ((f_Mdl_accumulator (f_Mdl_load (f_Mdl_find T (18 : Int32)).2 (f_Mdl_is T (32 : Int32))).2) ^^^ (f_Mdl_load (f_Mdl_find T (18 : Int32)).2 (f_Mdl_is T (32 : Int32))).1) (f_Mdl_is T (32 : Int32))).1))) := rfl
  rw [e, fd1_18, if_neg (by decide : ¬ (1 : Int32) = 0)]
theorem o_52 {S T : Sc} (h : RR S T) : KO (f_Prc_useAccumulator S (82 : Int32)) (f_Mdl_arithmetic T (82 : Int32)) := by
  rw [ec_52, em_52]
  obtain ⟨f1, f2, f3, f4⟩ := sp_18 h
  obtain ⟨l1, l2, l3⟩ := s_load f2 f3 (WN_A h)
  have lf := (fr_rv (S := (f_Opd_place S 18).2) (c := (f_Opd_place S 18).1) (WN_A h)).trans f4
  have hw := WN_fr h lf
  exact ⟨rfl, rfl, s_setA2 l3 hw (by rw [acc_eq l3, l1])⟩
theorem ec_53 (S : Sc) : f_Prc_useAccumulator S (83 : Int32) = ((1 : Int32), (f_Reg_loadA (f_Bus_readValue (f_Opd_place S (19 : Int32)).2 (f_Opd_place S (19 : Int32)).1 (f_Reg_wideA S)).2 ((f_Reg_a (f_Bus_readValue (f_Opd_place S (19 : Int32)).2 (f_Opd_place S (19 : Int32)).1 (f_Reg_wideA S)).2) ^^^ (f_Bus_readValue (f_Opd_place S (19 : Int32)).2 (f_Opd_place S (19 : Int32)).1 (f_Reg_wideA S)).1))) := rfl
theorem em_53 (T : Sc) : f_Mdl_arithmetic T (83 : Int32) = ((1 : Int32), (f_Mdl_setAccumulator (f_Mdl_result (f_Mdl_load (f_Mdl_find T (19 : Int32)).2 (f_Mdl_is T (32 : Int32))).2 ((f_Mdl_accumulator (f_Mdl_load (f_Mdl_find T (19 : Int32)).2 (f_Mdl_is T (32 : Int32))).2) ^^^ (f_Mdl_load (f_Mdl_find T (19 : Int32)).2 (f_Mdl_is T (32 : Int32))).1) (f_Mdl_is T (32 : Int32))).2 (f_Mdl_result (f_Mdl_load (f_Mdl_find T (19 : Int32)).2 (f_Mdl_is T (32 : Int32))).2 ((f_Mdl_accumulator (f_Mdl_load (f_Mdl_find T (19 : Int32)).2 (f_Mdl_is T (32 : Int32))).2) ^^^ (f_Mdl_load (f_Mdl_find T (19 : Int32)).2 (f_Mdl_is T (32 : Int32))).1) (f_Mdl_is T (32 : Int32))).1)) := by
  have e : f_Mdl_arithmetic T (83 : Int32) = if (f_Mdl_find T (19 : Int32)).1 = (0 : Int32) then (((0 : Int32), (f_Mdl_find T (19 : Int32)).2)) else (((1 : Int32), (f_Mdl_setAccumulator (f_Mdl_result (f_Mdl_load (f_Mdl_find T (19 : Int32)).2 (f_Mdl_is T (32 : Int32))).2 ((f_Mdl_accumulator (f_Mdl_load (f_Mdl_find T (19 : Int32)).2 (f_Mdl_is T (32 : Int32))).2) ^^^ (f_Mdl_load (f_Mdl_find T (19 : Int32)).2 (f_Mdl_is T (32 : Int32))).1) (f_Mdl_is T (32 : Int32))).2 (f_Mdl_result (f_Mdl_load (f_Mdl_find T (19 : Int32)).2 (f_Mdl_is T (32 : Int32))).2 ((f_Mdl_accumulator (f_Mdl_load (f_Mdl_find T (19 : Int32)).2 (f_Mdl_is T (32 : Int32))).2) ^^^ (f_Mdl_load (f_Mdl_find T (19 : Int32)).2 (f_Mdl_is T (32 : Int32))).1) (f_Mdl_is T (32 : Int32))).1))) := rfl
  rw [e, fd1_19, if_neg (by decide : ¬ (1 : Int32) = 0)]
theorem o_53 {S T : Sc} (h : RR S T) : KO (f_Prc_useAccumulator S (83 : Int32)) (f_Mdl_arithmetic T (83 : Int32)) := by
  rw [ec_53, em_53]
  obtain ⟨f1, f2, f3, f4⟩ := sp_19 h
  obtain ⟨l1, l2, l3⟩ := s_load f2 f3 (WN_A h)
  have lf := (fr_rv (S := (f_Opd_place S 19).2) (c := (f_Opd_place S 19).1) (WN_A h)).trans f4
  have hw := WN_fr h lf
  exact ⟨rfl, rfl, s_setA2 l3 hw (by rw [acc_eq l3, l1])⟩
theorem ec_54 (S : Sc) : f_Prc_moveBlock S (84 : Int32) = if (mvA S).1 0 = (0 : Int32) then (((1 : Int32), (pr (pr (pr (mvA S) 1 (((((mvA S).1 1) + (1 : Int32)) &&& (f_Reg_indexMask (mvA S))))) 2 (((((mvA S).1 2) + (1 : Int32)) &&& (f_Reg_indexMask (pr (mvA S) 1 (((((mvA S).1 1) + (1 : Int32)) &&& (f_Reg_indexMask (mvA S))))))))) 0 (((((mvA S).1 0) - (1 : Int32)) &&& (65535 : Int32)))))) else (((1 : Int32), (pr (f_Reg_jumpTo (pr (pr (mvA S) 1 (((((mvA S).1 1) + (1 : Int32)) &&& (f_Reg_indexMask (mvA S))))) 2 (((((mvA S).1 2) + (1 : Int32)) &&& (f_Reg_indexMask (pr (mvA S) 1 (((((mvA S).1 1) + (1 : Int32)) &&& (f_Reg_indexMask (mvA S))))))))) ((S.1 7) - (1 : Int32))) 0 (((((f_Reg_jumpTo (pr (pr (mvA S) 1 (((((mvA S).1 1) + (1 : Int32)) &&& (f_Reg_indexMask (mvA S))))) 2 (((((mvA S).1 2) + (1 : Int32)) &&& (f_Reg_indexMask (pr (mvA S) 1 (((((mvA S).1 1) + (1 : Int32)) &&& (f_Reg_indexMask (mvA S))))))))) ((S.1 7) - (1 : Int32))).1 0) - (1 : Int32)) &&& (65535 : Int32)))))) := rfl
theorem em_54 (T : Sc) : f_Mdl_other T (84 : Int32) = ((1 : Int32), (f_Mdl_moveBlock T (1 : Int32))) := rfl
theorem o_54 {S T : Sc} (h : RR S T) : KO (f_Prc_moveBlock S (84 : Int32)) (f_Mdl_other T (84 : Int32)) := by
  rw [ec_54, em_54]
  have b := s_mv (x := 1) h
  by_cases z : (mvA S).1 0 = (0 : Int32)
  · rw [if_pos z] at b
    rw [if_pos z]
    exact ⟨rfl, rfl, b⟩
  · rw [if_neg z] at b
    rw [if_neg z, jt_0, pr2_0, pr1_0]
    exact ⟨rfl, rfl, b⟩
theorem ec_55 (S : Sc) : f_Prc_useAccumulator S (85 : Int32) = ((1 : Int32), (f_Reg_loadA (f_Bus_readValue (f_Opd_place S (21 : Int32)).2 (f_Opd_place S (21 : Int32)).1 (f_Reg_wideA S)).2 ((f_Reg_a (f_Bus_readValue (f_Opd_place S (21 : Int32)).2 (f_Opd_place S (21 : Int32)).1 (f_Reg_wideA S)).2) ^^^ (f_Bus_readValue (f_Opd_place S (21 : Int32)).2 (f_Opd_place S (21 : Int32)).1 (f_Reg_wideA S)).1))) := rfl
theorem em_55 (T : Sc) : f_Mdl_arithmetic T (85 : Int32) = ((1 : Int32), (f_Mdl_setAccumulator (f_Mdl_result (f_Mdl_load (f_Mdl_find T (21 : Int32)).2 (f_Mdl_is T (32 : Int32))).2 ((f_Mdl_accumulator (f_Mdl_load (f_Mdl_find T (21 : Int32)).2 (f_Mdl_is T (32 : Int32))).2) ^^^ (f_Mdl_load (f_Mdl_find T (21 : Int32)).2 (f_Mdl_is T (32 : Int32))).1) (f_Mdl_is T (32 : Int32))).2 (f_Mdl_result (f_Mdl_load (f_Mdl_find T (21 : Int32)).2 (f_Mdl_is T (32 : Int32))).2 ((f_Mdl_accumulator (f_Mdl_load (f_Mdl_find T (21 : Int32)).2 (f_Mdl_is T (32 : Int32))).2) ^^^ (f_Mdl_load (f_Mdl_find T (21 : Int32)).2 (f_Mdl_is T (32 : Int32))).1) (f_Mdl_is T (32 : Int32))).1)) := by
  have e : f_Mdl_arithmetic T (85 : Int32) = if (f_Mdl_find T (21 : Int32)).1 = (0 : Int32) then (((0 : Int32), (f_Mdl_find T (21 : Int32)).2)) else (((1 : Int32), (f_Mdl_setAccumulator (f_Mdl_result (f_Mdl_load (f_Mdl_find T (21 : Int32)).2 (f_Mdl_is T (32 : Int32))).2 ((f_Mdl_accumulator (f_Mdl_load (f_Mdl_find T (21 : Int32)).2 (f_Mdl_is T (32 : Int32))).2) ^^^ (f_Mdl_load (f_Mdl_find T (21 : Int32)).2 (f_Mdl_is T (32 : Int32))).1) (f_Mdl_is T (32 : Int32))).2 (f_Mdl_result (f_Mdl_load (f_Mdl_find T (21 : Int32)).2 (f_Mdl_is T (32 : Int32))).2 ((f_Mdl_accumulator (f_Mdl_load (f_Mdl_find T (21 : Int32)).2 (f_Mdl_is T (32 : Int32))).2) ^^^ (f_Mdl_load (f_Mdl_find T (21 : Int32)).2 (f_Mdl_is T (32 : Int32))).1) (f_Mdl_is T (32 : Int32))).1))) := rfl
  rw [e, fd1_21, if_neg (by decide : ¬ (1 : Int32) = 0)]
theorem o_55 {S T : Sc} (h : RR S T) : KO (f_Prc_useAccumulator S (85 : Int32)) (f_Mdl_arithmetic T (85 : Int32)) := by
  rw [ec_55, em_55]
  obtain ⟨f1, f2, f3, f4⟩ := sp_21 h
  obtain ⟨l1, l2, l3⟩ := s_load f2 f3 (WN_A h)
  have lf := (fr_rv (S := (f_Opd_place S 21).2) (c := (f_Opd_place S 21).1) (WN_A h)).trans f4
  have hw := WN_fr h lf
  exact ⟨rfl, rfl, s_setA2 l3 hw (by rw [acc_eq l3, l1])⟩
theorem ec_57 (S : Sc) : f_Prc_useAccumulator S (87 : Int32) = ((1 : Int32), (f_Reg_loadA (f_Bus_readValue (f_Opd_place S (23 : Int32)).2 (f_Opd_place S (23 : Int32)).1 (f_Reg_wideA S)).2 ((f_Reg_a (f_Bus_readValue (f_Opd_place S (23 : Int32)).2 (f_Opd_place S (23 : Int32)).1 (f_Reg_wideA S)).2) ^^^ (f_Bus_readValue (f_Opd_place S (23 : Int32)).2 (f_Opd_place S (23 : Int32)).1 (f_Reg_wideA S)).1))) := rfl
theorem em_57 (T : Sc) : f_Mdl_arithmetic T (87 : Int32) = ((1 : Int32), (f_Mdl_setAccumulator (f_Mdl_result (f_Mdl_load (f_Mdl_find T (23 : Int32)).2 (f_Mdl_is T (32 : Int32))).2 ((f_Mdl_accumulator (f_Mdl_load (f_Mdl_find T (23 : Int32)).2 (f_Mdl_is T (32 : Int32))).2) ^^^ (f_Mdl_load (f_Mdl_find T (23 : Int32)).2 (f_Mdl_is T (32 : Int32))).1) (f_Mdl_is T (32 : Int32))).2 (f_Mdl_result (f_Mdl_load (f_Mdl_find T (23 : Int32)).2 (f_Mdl_is T (32 : Int32))).2 ((f_Mdl_accumulator (f_Mdl_load (f_Mdl_find T (23 : Int32)).2 (f_Mdl_is T (32 : Int32))).2) ^^^ (f_Mdl_load (f_Mdl_find T (23 : Int32)).2 (f_Mdl_is T (32 : Int32))).1) (f_Mdl_is T (32 : Int32))).1)) := by
  have e : f_Mdl_arithmetic T (87 : Int32) = if (f_Mdl_find T (23 : Int32)).1 = (0 : Int32) then (((0 : Int32), (f_Mdl_find T (23 : Int32)).2)) else (((1 : Int32), (f_Mdl_setAccumulator (f_Mdl_result (f_Mdl_load (f_Mdl_find T (23 : Int32)).2 (f_Mdl_is T (32 : Int32))).2 ((f_Mdl_accumulator (f_Mdl_load (f_Mdl_find T (23 : Int32)).2 (f_Mdl_is T (32 : Int32))).2) ^^^ (f_Mdl_load (f_Mdl_find T (23 : Int32)).2 (f_Mdl_is T (32 : Int32))).1) (f_Mdl_is T (32 : Int32))).2 (f_Mdl_result (f_Mdl_load (f_Mdl_find T (23 : Int32)).2 (f_Mdl_is T (32 : Int32))).2 ((f_Mdl_accumulator (f_Mdl_load (f_Mdl_find T (23 : Int32)).2 (f_Mdl_is T (32 : Int32))).2) ^^^ (f_Mdl_load (f_Mdl_find T (23 : Int32)).2 (f_Mdl_is T (32 : Int32))).1) (f_Mdl_is T (32 : Int32))).1))) := rfl
  rw [e, fd1_23, if_neg (by decide : ¬ (1 : Int32) = 0)]
theorem o_57 {S T : Sc} (h : RR S T) : KO (f_Prc_useAccumulator S (87 : Int32)) (f_Mdl_arithmetic T (87 : Int32)) := by
  rw [ec_57, em_57]
  obtain ⟨f1, f2, f3, f4⟩ := sp_23 h
  obtain ⟨l1, l2, l3⟩ := s_load f2 f3 (WN_A h)
  have lf := (fr_rv (S := (f_Opd_place S 23).2) (c := (f_Opd_place S 23).1) (WN_A h)).trans f4
  have hw := WN_fr h lf
  exact ⟨rfl, rfl, s_setA2 l3 hw (by rw [acc_eq l3, l1])⟩
theorem ec_58 (S : Sc) : f_Prc_changeFlags S (88 : Int32) = ((1 : Int32), (f_Reg_putFlag S (4 : Int32) (0 : Int32))) := rfl
theorem em_58 (T : Sc) : f_Mdl_other T (88 : Int32) = ((1 : Int32), (f_Mdl_flag T (4 : Int32) (0 : Int32))) := rfl
theorem o_58 {S T : Sc} (h : RR S T) : KO (f_Prc_changeFlags S (88 : Int32)) (f_Mdl_other T (88 : Int32)) := by
  rw [ec_58, em_58]
  exact ⟨rfl, rfl, s_flag h 4 0 (by decide)⟩
theorem ec_59 (S : Sc) : f_Prc_useAccumulator S (89 : Int32) = ((1 : Int32), (f_Reg_loadA (f_Bus_readValue (f_Opd_place S (25 : Int32)).2 (f_Opd_place S (25 : Int32)).1 (f_Reg_wideA S)).2 ((f_Reg_a (f_Bus_readValue (f_Opd_place S (25 : Int32)).2 (f_Opd_place S (25 : Int32)).1 (f_Reg_wideA S)).2) ^^^ (f_Bus_readValue (f_Opd_place S (25 : Int32)).2 (f_Opd_place S (25 : Int32)).1 (f_Reg_wideA S)).1))) := rfl
theorem em_59 (T : Sc) : f_Mdl_arithmetic T (89 : Int32) = ((1 : Int32), (f_Mdl_setAccumulator (f_Mdl_result (f_Mdl_load (f_Mdl_find T (25 : Int32)).2 (f_Mdl_is T (32 : Int32))).2 ((f_Mdl_accumulator (f_Mdl_load (f_Mdl_find T (25 : Int32)).2 (f_Mdl_is T (32 : Int32))).2) ^^^ (f_Mdl_load (f_Mdl_find T (25 : Int32)).2 (f_Mdl_is T (32 : Int32))).1) (f_Mdl_is T (32 : Int32))).2 (f_Mdl_result (f_Mdl_load (f_Mdl_find T (25 : Int32)).2 (f_Mdl_is T (32 : Int32))).2 ((f_Mdl_accumulator (f_Mdl_load (f_Mdl_find T (25 : Int32)).2 (f_Mdl_is T (32 : Int32))).2) ^^^ (f_Mdl_load (f_Mdl_find T (25 : Int32)).2 (f_Mdl_is T (32 : Int32))).1) (f_Mdl_is T (32 : Int32))).1)) := by
  have e : f_Mdl_arithmetic T (89 : Int32) = if (f_Mdl_find T (25 : Int32)).1 = (0 : Int32) then (((0 : Int32), (f_Mdl_find T (25 : Int32)).2)) else (((1 : Int32), (f_Mdl_setAccumulator (f_Mdl_result (f_Mdl_load (f_Mdl_find T (25 : Int32)).2 (f_Mdl_is T (32 : Int32))).2 ((f_Mdl_accumulator (f_Mdl_load (f_Mdl_find T (25 : Int32)).2 (f_Mdl_is T (32 : Int32))).2) ^^^ (f_Mdl_load (f_Mdl_find T (25 : Int32)).2 (f_Mdl_is T (32 : Int32))).1) (f_Mdl_is T (32 : Int32))).2 (f_Mdl_result (f_Mdl_load (f_Mdl_find T (25 : Int32)).2 (f_Mdl_is T (32 : Int32))).2 ((f_Mdl_accumulator (f_Mdl_load (f_Mdl_find T (25 : Int32)).2 (f_Mdl_is T (32 : Int32))).2) ^^^ (f_Mdl_load (f_Mdl_find T (25 : Int32)).2 (f_Mdl_is T (32 : Int32))).1) (f_Mdl_is T (32 : Int32))).1))) := rfl
  rw [e, fd1_25, if_neg (by decide : ¬ (1 : Int32) = 0)]
theorem o_59 {S T : Sc} (h : RR S T) : KO (f_Prc_useAccumulator S (89 : Int32)) (f_Mdl_arithmetic T (89 : Int32)) := by
  rw [ec_59, em_59]
  obtain ⟨f1, f2, f3, f4⟩ := sp_25 h
  obtain ⟨l1, l2, l3⟩ := s_load f2 f3 (WN_A h)
  have lf := (fr_rv (S := (f_Opd_place S 25).2) (c := (f_Opd_place S 25).1) (WN_A h)).trans f4
  have hw := WN_fr h lf
  exact ⟨rfl, rfl, s_setA2 l3 hw (by rw [acc_eq l3, l1])⟩
theorem ec_5A (S : Sc) : f_Prc_push S (90 : Int32) = ((1 : Int32), (f_Stk_pushValue S (S.1 2) (f_Reg_wideIndex S))) := rfl
theorem em_5A (T : Sc) : f_Mdl_stack T (90 : Int32) = ((1 : Int32), (f_Mdl_pushOf T (T.1 2) (f_Mdl_is T (16 : Int32)))) := rfl
theorem o_5A {S T : Sc} (h : RR S T) : KO (f_Prc_push S (90 : Int32)) (f_Mdl_stack T (90 : Int32)) := by
  rw [ec_5A, em_5A]
  exact ⟨rfl, rfl, s_pushV h (WN_I h) (fun _ => RRe_2 h) (by rw [RRe_2 h])⟩
theorem ec_5B (S : Sc) : f_Prc_transfer S (91 : Int32) = ((1 : Int32), (f_Reg_loadD S (S.1 0))) := rfl
theorem em_5B (T : Sc) : f_Mdl_transfer T (91 : Int32) = ((1 : Int32), (pr (f_Mdl_result T (T.1 0) (0 : Int32)).2 4 ((f_Mdl_result T (T.1 0) (0 : Int32)).1))) := rfl
theorem o_5B {S T : Sc} (h : RR S T) : KO (f_Prc_transfer S (91 : Int32)) (f_Mdl_transfer T (91 : Int32)) := by
  rw [ec_5B, em_5B]
  have k := s_loadD h (RRr_0 h)
  rw [RRe_0 h] at k
  refine ⟨rfl, rfl, ?_⟩
  show RR (f_Reg_loadD S (S.1 0)) _
  rw [RRe_0 h]; exact k
theorem ec_5C (S : Sc) : f_Prc_jump S (92 : Int32) = ((1 : Int32), (f_Reg_jumpLong (f_Opd_nextLong S).2 (f_Opd_nextLong S).1)) := rfl
theorem em_5C (T : Sc) : f_Mdl_jump T (92 : Int32) = ((1 : Int32), (pr (pr (f_Mdl_nextLong T).2 7 (((f_Mdl_nextLong T).1 >>> ((16 : Int32) &&& 31)))) 8 (((f_Mdl_nextLong T).1 &&& (65535 : Int32))))) := rfl
theorem o_5C {S T : Sc} (h : RR S T) : KO (f_Prc_jump S (92 : Int32)) (f_Mdl_jump T (92 : Int32)) := by
  rw [ec_5C, em_5C]
  obtain ⟨a1, a2, a3⟩ := s_nl h
  exact ⟨rfl, rfl, R_78 a3 (by rw [a1]) (sh16_8 a2) (by rw [a1]) (m16 _)⟩
theorem ec_5D (S : Sc) : f_Prc_useAccumulator S (93 : Int32) = ((1 : Int32), (f_Reg_loadA (f_Bus_readValue (f_Opd_place S (29 : Int32)).2 (f_Opd_place S (29 : Int32)).1 (f_Reg_wideA S)).2 ((f_Reg_a (f_Bus_readValue (f_Opd_place S (29 : Int32)).2 (f_Opd_place S (29 : Int32)).1 (f_Reg_wideA S)).2) ^^^ (f_Bus_readValue (f_Opd_place S (29 : Int32)).2 (f_Opd_place S (29 : Int32)).1 (f_Reg_wideA S)).1))) := rfl
theorem em_5D (T : Sc) : f_Mdl_arithmetic T (93 : Int32) = ((1 : Int32), (f_Mdl_setAccumulator (f_Mdl_result (f_Mdl_load (f_Mdl_find T (29 : Int32)).2 (f_Mdl_is T (32 : Int32))).2 ((f_Mdl_accumulator (f_Mdl_load (f_Mdl_find T (29 : Int32)).2 (f_Mdl_is T (32 : Int32))).2) ^^^ (f_Mdl_load (f_Mdl_find T (29 : Int32)).2 (f_Mdl_is T (32 : Int32))).1) (f_Mdl_is T (32 : Int32))).2 (f_Mdl_result (f_Mdl_load (f_Mdl_find T (29 : Int32)).2 (f_Mdl_is T (32 : Int32))).2 ((f_Mdl_accumulator (f_Mdl_load (f_Mdl_find T (29 : Int32)).2 (f_Mdl_is T (32 : Int32))).2) ^^^ (f_Mdl_load (f_Mdl_find T (29 : Int32)).2 (f_Mdl_is T (32 : Int32))).1) (f_Mdl_is T (32 : Int32))).1)) := by
  have e : f_Mdl_arithmetic T (93 : Int32) = if (f_Mdl_find T (29 : Int32)).1 = (0 : Int32) then (((0 : Int32), (f_Mdl_find T (29 : Int32)).2)) else (((1 : Int32), (f_Mdl_setAccumulator (f_Mdl_result (f_Mdl_load (f_Mdl_find T (29 : Int32)).2 (f_Mdl_is T (32 : Int32))).2 ((f_Mdl_accumulator (f_Mdl_load (f_Mdl_find T (29 : Int32)).2 (f_Mdl_is T (32 : Int32))).2) ^^^ (f_Mdl_load (f_Mdl_find T (29 : Int32)).2 (f_Mdl_is T (32 : Int32))).1) (f_Mdl_is T (32 : Int32))).2 (f_Mdl_result (f_Mdl_load (f_Mdl_find T (29 : Int32)).2 (f_Mdl_is T (32 : Int32))).2 ((f_Mdl_accumulator (f_Mdl_load (f_Mdl_find T (29 : Int32)).2 (f_Mdl_is T (32 : Int32))).2) ^^^ (f_Mdl_load (f_Mdl_find T (29 : Int32)).2 (f_Mdl_is T (32 : Int32))).1) (f_Mdl_is T (32 : Int32))).1))) := rfl
  rw [e, fd1_29, if_neg (by decide : ¬ (1 : Int32) = 0)]
theorem o_5D {S T : Sc} (h : RR S T) : KO (f_Prc_useAccumulator S (93 : Int32)) (f_Mdl_arithmetic T (93 : Int32)) := by
  rw [ec_5D, em_5D]
  obtain ⟨f1, f2, f3, f4⟩ := sp_29 h
  obtain ⟨l1, l2, l3⟩ := s_load f2 f3 (WN_A h)
  have lf := (fr_rv (S := (f_Opd_place S 29).2) (c := (f_Opd_place S 29).1) (WN_A h)).trans f4
  have hw := WN_fr h lf
  exact ⟨rfl, rfl, s_setA2 l3 hw (by rw [acc_eq l3, l1])⟩
theorem ec_5F (S : Sc) : f_Prc_useAccumulator S (95 : Int32) = ((1 : Int32), (f_Reg_loadA (f_Bus_readValue (f_Opd_place S (31 : Int32)).2 (f_Opd_place S (31 : Int32)).1 (f_Reg_wideA S)).2 ((f_Reg_a (f_Bus_readValue (f_Opd_place S (31 : Int32)).2 (f_Opd_place S (31 : Int32)).1 (f_Reg_wideA S)).2) ^^^ (f_Bus_readValue (f_Opd_place S (31 : Int32)).2 (f_Opd_place S (31 : Int32)).1 (f_Reg_wideA S)).1))) := rfl
theorem em_5F (T : Sc) : f_Mdl_arithmetic T (95 : Int32) = ((1 : Int32), (f_Mdl_setAccumulator (f_Mdl_result (f_Mdl_load (f_Mdl_find T (31 : Int32)).2 (f_Mdl_is T (32 : Int32))).2 ((f_Mdl_accumulator (f_Mdl_load (f_Mdl_find T (31 : Int32)).2 (f_Mdl_is T (32 : Int32))).2) ^^^ (f_Mdl_load (f_Mdl_find T (31 : Int32)).2 (f_Mdl_is T (32 : Int32))).1) (f_Mdl_is T (32 : Int32))).2 (f_Mdl_result (f_Mdl_load (f_Mdl_find T (31 : Int32)).2 (f_Mdl_is T (32 : Int32))).2 ((f_Mdl_accumulator (f_Mdl_load (f_Mdl_find T (31 : Int32)).2 (f_Mdl_is T (32 : Int32))).2) ^^^ (f_Mdl_load (f_Mdl_find T (31 : Int32)).2 (f_Mdl_is T (32 : Int32))).1) (f_Mdl_is T (32 : Int32))).1)) := by
  have e : f_Mdl_arithmetic T (95 : Int32) = if (f_Mdl_find T (31 : Int32)).1 = (0 : Int32) then (((0 : Int32), (f_Mdl_find T (31 : Int32)).2)) else (((1 : Int32), (f_Mdl_setAccumulator (f_Mdl_result (f_Mdl_load (f_Mdl_find T (31 : Int32)).2 (f_Mdl_is T (32 : Int32))).2 ((f_Mdl_accumulator (f_Mdl_load (f_Mdl_find T (31 : Int32)).2 (f_Mdl_is T (32 : Int32))).2) ^^^ (f_Mdl_load (f_Mdl_find T (31 : Int32)).2 (f_Mdl_is T (32 : Int32))).1) (f_Mdl_is T (32 : Int32))).2 (f_Mdl_result (f_Mdl_load (f_Mdl_find T (31 : Int32)).2 (f_Mdl_is T (32 : Int32))).2 ((f_Mdl_accumulator (f_Mdl_load (f_Mdl_find T (31 : Int32)).2 (f_Mdl_is T (32 : Int32))).2) ^^^ (f_Mdl_load (f_Mdl_find T (31 : Int32)).2 (f_Mdl_is T (32 : Int32))).1) (f_Mdl_is T (32 : Int32))).1))) := rfl
  rw [e, fd1_31, if_neg (by decide : ¬ (1 : Int32) = 0)]
theorem o_5F {S T : Sc} (h : RR S T) : KO (f_Prc_useAccumulator S (95 : Int32)) (f_Mdl_arithmetic T (95 : Int32)) := by
  rw [ec_5F, em_5F]
  obtain ⟨f1, f2, f3, f4⟩ := sp_31 h
  obtain ⟨l1, l2, l3⟩ := s_load f2 f3 (WN_A h)
  have lf := (fr_rv (S := (f_Opd_place S 31).2) (c := (f_Opd_place S 31).1) (WN_A h)).trans f4
  have hw := WN_fr h lf
  exact ⟨rfl, rfl, s_setA2 l3 hw (by rw [acc_eq l3, l1])⟩
theorem ec_60 (S : Sc) : f_Prc_jump S (96 : Int32) = ((1 : Int32), (f_Reg_jumpTo (f_Stk_pullWord S).2 ((f_Stk_pullWord S).1 + (1 : Int32)))) := rfl
theorem em_60 (T : Sc) : f_Mdl_jump T (96 : Int32) = ((1 : Int32), (pr (f_Mdl_pullWord T).2 8 ((((f_Mdl_pullWord T).1 + (1 : Int32)) &&& (65535 : Int32))))) := rfl
theorem o_60 {S T : Sc} (h : RR S T) : KO (f_Prc_jump S (96 : Int32)) (f_Mdl_jump T (96 : Int32)) := by
  rw [ec_60, em_60]
  obtain ⟨a1, a2, a3⟩ := s_pullW h
  exact ⟨rfl, rfl, s_jump a3 (by rw [a1])⟩
theorem ec_61 (S : Sc) : f_Prc_useAccumulator S (97 : Int32) = ((1 : Int32), (f_Prc_addToA (f_Bus_readValue (f_Opd_place S (1 : Int32)).2 (f_Opd_place S (1 : Int32)).1 (f_Reg_wideA S)).2 (f_Bus_readValue (f_Opd_place S (1 : Int32)).2 (f_Opd_place S (1 : Int32)).1 (f_Reg_wideA S)).1)) := rfl
theorem em_61 (T : Sc) : f_Mdl_arithmetic T (97 : Int32) = ((1 : Int32), (f_Mdl_add (f_Mdl_load (f_Mdl_find T (1 : Int32)).2 (f_Mdl_is T (32 : Int32))).2 (f_Mdl_load (f_Mdl_find T (1 : Int32)).2 (f_Mdl_is T (32 : Int32))).1)) := by
  have e : f_Mdl_arithmetic T (97 : Int32) = if (f_Mdl_find T (1 : Int32)).1 = (0 : Int32) then (((0 : Int32), (f_Mdl_find T (1 : Int32)).2)) else (((1 : Int32), (f_Mdl_add (f_Mdl_load (f_Mdl_find T (1 : Int32)).2 (f_Mdl_is T (32 : Int32))).2 (f_Mdl_load (f_Mdl_find T (1 : Int32)).2 (f_Mdl_is T (32 : Int32))).1))) := rfl
  rw [e, fd1_1, if_neg (by decide : ¬ (1 : Int32) = 0)]
theorem o_61 {S T : Sc} (h : RR S T) : KO (f_Prc_useAccumulator S (97 : Int32)) (f_Mdl_arithmetic T (97 : Int32)) := by
  rw [ec_61, em_61]
  obtain ⟨f1, f2, f3, f4⟩ := sp_1 h
  obtain ⟨l1, l2, l3⟩ := s_load f2 f3 (WN_A h)
  have lf := (fr_rv (S := (f_Opd_place S 1).2) (c := (f_Opd_place S 1).1) (WN_A h)).trans f4
  have hw := WN_fr h lf
  exact ⟨rfl, rfl, s_add2 l3 l1⟩
theorem ec_63 (S : Sc) : f_Prc_useAccumulator S (99 : Int32) = ((1 : Int32), (f_Prc_addToA (f_Bus_readValue (f_Opd_place S (3 : Int32)).2 (f_Opd_place S (3 : Int32)).1 (f_Reg_wideA S)).2 (f_Bus_readValue (f_Opd_place S (3 : Int32)).2 (f_Opd_place S (3 : Int32)).1 (f_Reg_wideA S)).1)) := rfl
theorem em_63 (T : Sc) : f_Mdl_arithmetic T (99 : Int32) = ((1 : Int32), (f_Mdl_add (f_Mdl_load (f_Mdl_find T (3 : Int32)).2 (f_Mdl_is T (32 : Int32))).2 (f_Mdl_load (f_Mdl_find T (3 : Int32)).2 (f_Mdl_is T (32 : Int32))).1)) := by
  have e : f_Mdl_arithmetic T (99 : Int32) = if (f_Mdl_find T (3 : Int32)).1 = (0 : Int32) then (((0 : Int32), (f_Mdl_find T (3 : Int32)).2)) else (((1 : Int32), (f_Mdl_add (f_Mdl_load (f_Mdl_find T (3 : Int32)).2 (f_Mdl_is T (32 : Int32))).2 (f_Mdl_load (f_Mdl_find T (3 : Int32)).2 (f_Mdl_is T (32 : Int32))).1))) := rfl
  rw [e, fd1_3, if_neg (by decide : ¬ (1 : Int32) = 0)]
theorem o_63 {S T : Sc} (h : RR S T) : KO (f_Prc_useAccumulator S (99 : Int32)) (f_Mdl_arithmetic T (99 : Int32)) := by
  rw [ec_63, em_63]
  obtain ⟨f1, f2, f3, f4⟩ := sp_3 h
  obtain ⟨l1, l2, l3⟩ := s_load f2 f3 (WN_A h)
  have lf := (fr_rv (S := (f_Opd_place S 3).2) (c := (f_Opd_place S 3).1) (WN_A h)).trans f4
  have hw := WN_fr h lf
  exact ⟨rfl, rfl, s_add2 l3 l1⟩
theorem ec_64 (S : Sc) : f_Prc_storeZero S (100 : Int32) = ((1 : Int32), (f_Bus_writeValue (f_Opd_place S (5 : Int32)).2 (f_Opd_place S (5 : Int32)).1 (0 : Int32) (f_Reg_wideA (f_Opd_place S (5 : Int32)).2))) := rfl
theorem em_64 (T : Sc) : f_Mdl_index T (100 : Int32) = ((1 : Int32), (f_Mdl_storeAt T (0 : Int32) (0 : Int32) (f_Mdl_is T (32 : Int32)))) := rfl
theorem o_64 {S T : Sc} (h : RR S T) : KO (f_Prc_storeZero S (100 : Int32)) (f_Mdl_index T (100 : Int32)) := by
  rw [ec_64, em_64]
  obtain ⟨f2, f3, f4, f5⟩ := sp_fi h 5 0 (Or.inl ⟨rfl, rfl⟩)
  rw [sa_eq]
  exact ⟨rfl, rfl, s_store f2 f3 (WN_fr h f4) rfl (fun _ => rfl)⟩
theorem ec_65 (S : Sc) : f_Prc_useAccumulator S (101 : Int32) = ((1 : Int32), (f_Prc_addToA (f_Bus_readValue (f_Opd_place S (5 : Int32)).2 (f_Opd_place S (5 : Int32)).1 (f_Reg_wideA S)).2 (f_Bus_readValue (f_Opd_place S (5 : Int32)).2 (f_Opd_place S (5 : Int32)).1 (f_Reg_wideA S)).1)) := rfl
theorem em_65 (T : Sc) : f_Mdl_arithmetic T (101 : Int32) = ((1 : Int32), (f_Mdl_add (f_Mdl_load (f_Mdl_find T (5 : Int32)).2 (f_Mdl_is T (32 : Int32))).2 (f_Mdl_load (f_Mdl_find T (5 : Int32)).2 (f_Mdl_is T (32 : Int32))).1)) := by
  have e : f_Mdl_arithmetic T (101 : Int32) = if (f_Mdl_find T (5 : Int32)).1 = (0 : Int32) then (((0 : Int32), (f_Mdl_find T (5 : Int32)).2)) else (((1 : Int32), (f_Mdl_add (f_Mdl_load (f_Mdl_find T (5 : Int32)).2 (f_Mdl_is T (32 : Int32))).2 (f_Mdl_load (f_Mdl_find T (5 : Int32)).2 (f_Mdl_is T (32 : Int32))).1))) := rfl
  rw [e, fd1_5, if_neg (by decide : ¬ (1 : Int32) = 0)]
theorem o_65 {S T : Sc} (h : RR S T) : KO (f_Prc_useAccumulator S (101 : Int32)) (f_Mdl_arithmetic T (101 : Int32)) := by
  rw [ec_65, em_65]
  obtain ⟨f1, f2, f3, f4⟩ := sp_5 h
  obtain ⟨l1, l2, l3⟩ := s_load f2 f3 (WN_A h)
  have lf := (fr_rv (S := (f_Opd_place S 5).2) (c := (f_Opd_place S 5).1) (WN_A h)).trans f4
  have hw := WN_fr h lf
  exact ⟨rfl, rfl, s_add2 l3 l1⟩
theorem ec_66 (S : Sc) : f_Prc_changeMemory S (102 : Int32) = ((1 : Int32), (f_Bus_writeValue (f_Reg_showResult (f_Prc_changed (f_Bus_readValue (f_Opd_place S (5 : Int32)).2 (f_Opd_place S (5 : Int32)).1 (f_Reg_wideA S)).2 (3 : Int32) (f_Bus_readValue (f_Opd_place S (5 : Int32)).2 (f_Opd_place S (5 : Int32)).1 (f_Reg_wideA S)).1 (f_Reg_wideA S)).2 (f_Prc_changed (f_Bus_readValue (f_Opd_place S (5 : Int32)).2 (f_Opd_place S (5 : Int32)).1 (f_Reg_wideA S)).2 (3 : Int32) (f_Bus_readValue (f_Opd_place S (5 : Int32)).2 (f_Opd_place S (5 : Int32)).1 (f_Reg_wideA S)).1 (f_Reg_wideA S)).1 (f_Reg_wideA S)) (f_Opd_place S (5 : Int32)).1 (f_Prc_changed (f_Bus_readValue (f_Opd_place S (5 : Int32)).2 (f_Opd_place S (5 : Int32)).1 (f_Reg_wideA S)).2 (3 : Int32) (f_Bus_readValue (f_Opd_place S (5 : Int32)).2 (f_Opd_place S (5 : Int32)).1 (f_Reg_wideA S)).1 (f_Reg_wideA S)).1 (f_Reg_wideA S))) := rfl
theorem em_66 (T : Sc) : f_Mdl_change T (102 : Int32) = ((1 : Int32), (f_Mdl_changeMemory T (5 : Int32) (0 : Int32))) := rfl
theorem o_66 {S T : Sc} (h : RR S T) : KO (f_Prc_changeMemory S (102 : Int32)) (f_Mdl_change T (102 : Int32)) := by
  rw [ec_66, em_66]
  exact ⟨rfl, rfl, s_cm h 5 0 (Or.inl ⟨rfl, rfl⟩) (cm0 T 5) (fun {S T : Sc} {v w n : Int32} => sc_3)⟩
theorem ec_67 (S : Sc) : f_Prc_useAccumulator S (103 : Int32) = ((1 : Int32), (f_Prc_addToA (f_Bus_readValue (f_Opd_place S (7 : Int32)).2 (f_Opd_place S (7 : Int32)).1 (f_Reg_wideA S)).2 (f_Bus_readValue (f_Opd_place S (7 : Int32)).2 (f_Opd_place S (7 : Int32)).1 (f_Reg_wideA S)).1)) := rfl
theorem em_67 (T : Sc) : f_Mdl_arithmetic T (103 : Int32) = ((1 : Int32), (f_Mdl_add (f_Mdl_load (f_Mdl_find T (7 : Int32)).2 (f_Mdl_is T (32 : Int32))).2 (f_Mdl_load (f_Mdl_find T (7 : Int32)).2 (f_Mdl_is T (32 : Int32))).1)) := by
  have e : f_Mdl_arithmetic T (103 : Int32) = if (f_Mdl_find T (7 : Int32)).1 = (0 : Int32) then (((0 : Int32), (f_Mdl_find T (7 : Int32)).2)) else (((1 : Int32), (f_Mdl_add (f_Mdl_load (f_Mdl_find T (7 : Int32)).2 (f_Mdl_is T (32 : Int32))).2 (f_Mdl_load (f_Mdl_find T (7 : Int32)).2 (f_Mdl_is T (32 : Int32))).1))) := rfl
  rw [e, fd1_7, if_neg (by decide : ¬ (1 : Int32) = 0)]
theorem o_67 {S T : Sc} (h : RR S T) : KO (f_Prc_useAccumulator S (103 : Int32)) (f_Mdl_arithmetic T (103 : Int32)) := by
  rw [ec_67, em_67]
  obtain ⟨f1, f2, f3, f4⟩ := sp_7 h
  obtain ⟨l1, l2, l3⟩ := s_load f2 f3 (WN_A h)
  have lf := (fr_rv (S := (f_Opd_place S 7).2) (c := (f_Opd_place S 7).1) (WN_A h)).trans f4
  have hw := WN_fr h lf
  exact ⟨rfl, rfl, s_add2 l3 l1⟩
theorem ec_68 (S : Sc) : f_Prc_pull S (104 : Int32) = ((1 : Int32), (f_Reg_loadA (f_Stk_pullValue S (f_Reg_wideA S)).2 (f_Stk_pullValue S (f_Reg_wideA S)).1)) := rfl
theorem em_68 (T : Sc) : f_Mdl_stack T (104 : Int32) = ((1 : Int32), (f_Mdl_setAccumulator (f_Mdl_pullOf T (f_Mdl_is T (32 : Int32))).2 (f_Mdl_pullOf T (f_Mdl_is T (32 : Int32))).1)) := rfl
theorem o_68 {S T : Sc} (h : RR S T) : KO (f_Prc_pull S (104 : Int32)) (f_Mdl_stack T (104 : Int32)) := by
  rw [ec_68, em_68]
  obtain ⟨r, T2, q1, q2, q3, q4⟩ := s_pv h (WN_A h)
  rw [q1]
  exact ⟨rfl, rfl, s_setA2 q3 (WN_fr h q4) q2⟩
theorem ec_69 (S : Sc) : f_Prc_useAccumulator S (105 : Int32) = ((1 : Int32), (f_Prc_addToA (f_Opd_nextValue S (f_Reg_wideA S)).2 (f_Opd_nextValue S (f_Reg_wideA S)).1)) := rfl
theorem em_69 (T : Sc) : f_Mdl_arithmetic T (105 : Int32) = ((1 : Int32), (f_Mdl_add (f_Mdl_immediate T (f_Mdl_is T (32 : Int32))).2 (f_Mdl_immediate T (f_Mdl_is T (32 : Int32))).1)) := rfl
theorem o_69 {S T : Sc} (h : RR S T) : KO (f_Prc_useAccumulator S (105 : Int32)) (f_Mdl_arithmetic T (105 : Int32)) := by
  rw [ec_69, em_69]
  obtain ⟨l1, l2, l3⟩ := s_nv h (WN_A h)
  have lf := fr_nv (S := S) (WN_A h)
  have hw := WN_fr h lf
  exact ⟨rfl, rfl, s_add2 l3 l1⟩
theorem ec_6A (S : Sc) : f_Prc_changeRegister S (106 : Int32) = ((1 : Int32), (f_Reg_loadA (f_Prc_changed S (3 : Int32) (f_Reg_a S) (f_Reg_wideA S)).2 (f_Prc_changed S (3 : Int32) (f_Reg_a S) (f_Reg_wideA S)).1)) := rfl
theorem em_6A (T : Sc) : f_Mdl_change T (106 : Int32) = ((1 : Int32), (f_Mdl_setAccumulator (f_Mdl_changed T (5 : Int32) (f_Mdl_accumulator T) (f_Mdl_is T (32 : Int32))).2 (f_Mdl_changed T (5 : Int32) (f_Mdl_accumulator T) (f_Mdl_is T (32 : Int32))).1)) := rfl
theorem o_6A {S T : Sc} (h : RR S T) : KO (f_Prc_changeRegister S (106 : Int32)) (f_Mdl_change T (106 : Int32)) := by
  rw [ec_6A, em_6A]
  obtain ⟨T2, Ex, q1, q2, q3, q4, -, -⟩ := sc_3 h (WN_A h) (a_rg S)
  rw [← acc_eq h, q1]
  exact ⟨rfl, rfl, s_setA3 q2 (WN_b h q4) (WN_A h) (wA_b q4) q3⟩
theorem ec_6B (S : Sc) : f_Prc_jump S (107 : Int32) = ((1 : Int32), (pr (f_Stk_pullByte (f_Reg_jumpTo (f_Stk_pullWord S).2 ((f_Stk_pullWord S).1 + (1 : Int32)))).2 6 ((f_Stk_pullByte (f_Reg_jumpTo (f_Stk_pullWord S).2 ((f_Stk_pullWord S).1 + (1 : Int32)))).1))) := rfl
theorem em_6B (T : Sc) : f_Mdl_jump T (107 : Int32) = ((1 : Int32), (pr (f_Mdl_pull (pr (f_Mdl_pullWord T).2 8 ((((f_Mdl_pullWord T).1 + (1 : Int32)) &&& (65535 : Int32))))).2 7 ((f_Mdl_pull (pr (f_Mdl_pullWord T).2 8 ((((f_Mdl_pullWord T).1 + (1 : Int32)) &&& (65535 : Int32))))).1))) := rfl
theorem o_6B {S T : Sc} (h : RR S T) : KO (f_Prc_jump S (107 : Int32)) (f_Mdl_jump T (107 : Int32)) := by
  rw [ec_6B, em_6B]
  obtain ⟨a1, a2, a3⟩ := s_pullW h
  have b := s_jump (v := (f_Stk_pullWord S).1 + 1) (v2 := ((f_Mdl_pullWord T).1 + 1) &&& 65535) a3 (by rw [a1])
  obtain ⟨c1, c2, c3⟩ := s_pull b
  exact ⟨rfl, rfl, R_6 c3 c1 c2⟩
theorem ec_6D (S : Sc) : f_Prc_useAccumulator S (109 : Int32) = ((1 : Int32), (f_Prc_addToA (f_Bus_readValue (f_Opd_place S (13 : Int32)).2 (f_Opd_place S (13 : Int32)).1 (f_Reg_wideA S)).2 (f_Bus_readValue (f_Opd_place S (13 : Int32)).2 (f_Opd_place S (13 : Int32)).1 (f_Reg_wideA S)).1)) := rfl
theorem em_6D (T : Sc) : f_Mdl_arithmetic T (109 : Int32) = ((1 : Int32), (f_Mdl_add (f_Mdl_load (f_Mdl_find T (13 : Int32)).2 (f_Mdl_is T (32 : Int32))).2 (f_Mdl_load (f_Mdl_find T (13 : Int32)).2 (f_Mdl_is T (32 : Int32))).1)) := by
  have e : f_Mdl_arithmetic T (109 : Int32) = if (f_Mdl_find T (13 : Int32)).1 = (0 : Int32) then (((0 : Int32), (f_Mdl_find T (13 : Int32)).2)) else (((1 : Int32), (f_Mdl_add (f_Mdl_load (f_Mdl_find T (13 : Int32)).2 (f_Mdl_is T (32 : Int32))).2 (f_Mdl_load (f_Mdl_find T (13 : Int32)).2 (f_Mdl_is T (32 : Int32))).1))) := rfl
  rw [e, fd1_13, if_neg (by decide : ¬ (1 : Int32) = 0)]
theorem o_6D {S T : Sc} (h : RR S T) : KO (f_Prc_useAccumulator S (109 : Int32)) (f_Mdl_arithmetic T (109 : Int32)) := by
  rw [ec_6D, em_6D]
  obtain ⟨f1, f2, f3, f4⟩ := sp_13 h
  obtain ⟨l1, l2, l3⟩ := s_load f2 f3 (WN_A h)
  have lf := (fr_rv (S := (f_Opd_place S 13).2) (c := (f_Opd_place S 13).1) (WN_A h)).trans f4
  have hw := WN_fr h lf
  exact ⟨rfl, rfl, s_add2 l3 l1⟩
theorem ec_6F (S : Sc) : f_Prc_useAccumulator S (111 : Int32) = ((1 : Int32), (f_Prc_addToA (f_Bus_readValue (f_Opd_place S (15 : Int32)).2 (f_Opd_place S (15 : Int32)).1 (f_Reg_wideA S)).2 (f_Bus_readValue (f_Opd_place S (15 : Int32)).2 (f_Opd_place S (15 : Int32)).1 (f_Reg_wideA S)).1)) := rfl
theorem em_6F (T : Sc) : f_Mdl_arithmetic T (111 : Int32) = ((1 : Int32), (f_Mdl_add (f_Mdl_load (f_Mdl_find T (15 : Int32)).2 (f_Mdl_is T (32 : Int32))).2 (f_Mdl_load (f_Mdl_find T (15 : Int32)).2 (f_Mdl_is T (32 : Int32))).1)) := by
  have e : f_Mdl_arithmetic T (111 : Int32) = if (f_Mdl_find T (15 : Int32)).1 = (0 : Int32) then (((0 : Int32), (f_Mdl_find T (15 : Int32)).2)) else (((1 : Int32), (f_Mdl_add (f_Mdl_load (f_Mdl_find T (15 : Int32)).2 (f_Mdl_is T (32 : Int32))).2 (f_Mdl_load (f_Mdl_find T (15 : Int32)).2 (f_Mdl_is T (32 : Int32))).1))) := rfl
  rw [e, fd1_15, if_neg (by decide : ¬ (1 : Int32) = 0)]
theorem o_6F {S T : Sc} (h : RR S T) : KO (f_Prc_useAccumulator S (111 : Int32)) (f_Mdl_arithmetic T (111 : Int32)) := by
  rw [ec_6F, em_6F]
  obtain ⟨f1, f2, f3, f4⟩ := sp_15 h
  obtain ⟨l1, l2, l3⟩ := s_load f2 f3 (WN_A h)
  have lf := (fr_rv (S := (f_Opd_place S 15).2) (c := (f_Opd_place S 15).1) (WN_A h)).trans f4
  have hw := WN_fr h lf
  exact ⟨rfl, rfl, s_add2 l3 l1⟩
theorem ec_70 (S : Sc) : f_Prc_branch S (112 : Int32) = if (f_Reg_has (f_Opd_nextByte S).2 (bf ((1 : Int32)).toNatClampNeg)) = (1 : Int32) then (((1 : Int32), (f_Reg_jumpTo (f_Opd_nextByte S).2 (((f_Opd_nextByte S).2.1 7) + (((f_Opd_nextByte S).1).toInt8.toInt32))))) else (((1 : Int32), (f_Opd_nextByte S).2)) := rfl
theorem em_70 (T : Sc) : f_Mdl_jump T (112 : Int32) = ((1 : Int32), (f_Mdl_branch T (f_Mdl_is T (64 : Int32)))) := rfl
theorem o_70 {S T : Sc} (h : RR S T) : KO (f_Prc_branch S (112 : Int32)) (f_Mdl_jump T (112 : Int32)) := by
  rw [ec_70, em_70]
  have e : f_Reg_has (f_Opd_nextByte S).2 (64 : Int32) = f_Mdl_is T (64 : Int32) := has_n h (64 : Int32)
  have eb : bf (1 : Int32).toNatClampNeg = (64 : Int32) := rfl
  rw [eb, e]
  have b := s_br (x := f_Mdl_is T 64) h
  by_cases z : f_Mdl_is T (64 : Int32) = (1 : Int32)
  · rw [if_pos z]; exact ⟨rfl, rfl, b.1 (by rw [z]; decide)⟩
  · rw [if_neg z]; exact ⟨rfl, rfl, b.2 (is_01 z)⟩
theorem ec_71 (S : Sc) : f_Prc_useAccumulator S (113 : Int32) = ((1 : Int32), (f_Prc_addToA (f_Bus_readValue (f_Opd_place S (17 : Int32)).2 (f_Opd_place S (17 : Int32)).1 (f_Reg_wideA S)).2 (f_Bus_readValue (f_Opd_place S (17 : Int32)).2 (f_Opd_place S (17 : Int32)).1 (f_Reg_wideA S)).1)) := rfl
theorem em_71 (T : Sc) : f_Mdl_arithmetic T (113 : Int32) = ((1 : Int32), (f_Mdl_add (f_Mdl_load (f_Mdl_find T (17 : Int32)).2 (f_Mdl_is T (32 : Int32))).2 (f_Mdl_load (f_Mdl_find T (17 : Int32)).2 (f_Mdl_is T (32 : Int32))).1)) := by
  have e : f_Mdl_arithmetic T (113 : Int32) = if (f_Mdl_find T (17 : Int32)).1 = (0 : Int32) then (((0 : Int32), (f_Mdl_find T (17 : Int32)).2)) else (((1 : Int32), (f_Mdl_add (f_Mdl_load (f_Mdl_find T (17 : Int32)).2 (f_Mdl_is T (32 : Int32))).2 (f_Mdl_load (f_Mdl_find T (17 : Int32)).2 (f_Mdl_is T (32 : Int32))).1))) := rfl
  rw [e, fd1_17, if_neg (by decide : ¬ (1 : Int32) = 0)]
theorem o_71 {S T : Sc} (h : RR S T) : KO (f_Prc_useAccumulator S (113 : Int32)) (f_Mdl_arithmetic T (113 : Int32)) := by
  rw [ec_71, em_71]
  obtain ⟨f1, f2, f3, f4⟩ := sp_17 h
  obtain ⟨l1, l2, l3⟩ := s_load f2 f3 (WN_A h)
  have lf := (fr_rv (S := (f_Opd_place S 17).2) (c := (f_Opd_place S 17).1) (WN_A h)).trans f4
  have hw := WN_fr h lf
  exact ⟨rfl, rfl, s_add2 l3 l1⟩
theorem ec_72 (S : Sc) : f_Prc_useAccumulator S (114 : Int32) = ((1 : Int32), (f_Prc_addToA (f_Bus_readValue (f_Opd_place S (18 : Int32)).2 (f_Opd_place S (18 : Int32)).1 (f_Reg_wideA S)).2 (f_Bus_readValue (f_Opd_place S (18 : Int32)).2 (f_Opd_place S (18 : Int32)).1 (f_Reg_wideA S)).1)) := rfl
theorem em_72 (T : Sc) : f_Mdl_arithmetic T (114 : Int32) = ((1 : Int32), (f_Mdl_add (f_Mdl_load (f_Mdl_find T (18 : Int32)).2 (f_Mdl_is T (32 : Int32))).2 (f_Mdl_load (f_Mdl_find T (18 : Int32)).2 (f_Mdl_is T (32 : Int32))).1)) := by
  have e : f_Mdl_arithmetic T (114 : Int32) = if (f_Mdl_find T (18 : Int32)).1 = (0 : Int32) then (((0 : Int32), (f_Mdl_find T (18 : Int32)).2)) else (((1 : Int32), (f_Mdl_add (f_Mdl_load (f_Mdl_find T (18 : Int32)).2 (f_Mdl_is T (32 : Int32))).2 (f_Mdl_load (f_Mdl_find T (18 : Int32)).2 (f_Mdl_is T (32 : Int32))).1))) := rfl
  rw [e, fd1_18, if_neg (by decide : ¬ (1 : Int32) = 0)]
theorem o_72 {S T : Sc} (h : RR S T) : KO (f_Prc_useAccumulator S (114 : Int32)) (f_Mdl_arithmetic T (114 : Int32)) := by
  rw [ec_72, em_72]
  obtain ⟨f1, f2, f3, f4⟩ := sp_18 h
  obtain ⟨l1, l2, l3⟩ := s_load f2 f3 (WN_A h)
  have lf := (fr_rv (S := (f_Opd_place S 18).2) (c := (f_Opd_place S 18).1) (WN_A h)).trans f4
  have hw := WN_fr h lf
  exact ⟨rfl, rfl, s_add2 l3 l1⟩
theorem ec_73 (S : Sc) : f_Prc_useAccumulator S (115 : Int32) = ((1 : Int32), (f_Prc_addToA (f_Bus_readValue (f_Opd_place S (19 : Int32)).2 (f_Opd_place S (19 : Int32)).1 (f_Reg_wideA S)).2 (f_Bus_readValue (f_Opd_place S (19 : Int32)).2 (f_Opd_place S (19 : Int32)).1 (f_Reg_wideA S)).1)) := rfl
theorem em_73 (T : Sc) : f_Mdl_arithmetic T (115 : Int32) = ((1 : Int32), (f_Mdl_add (f_Mdl_load (f_Mdl_find T (19 : Int32)).2 (f_Mdl_is T (32 : Int32))).2 (f_Mdl_load (f_Mdl_find T (19 : Int32)).2 (f_Mdl_is T (32 : Int32))).1)) := by
  have e : f_Mdl_arithmetic T (115 : Int32) = if (f_Mdl_find T (19 : Int32)).1 = (0 : Int32) then (((0 : Int32), (f_Mdl_find T (19 : Int32)).2)) else (((1 : Int32), (f_Mdl_add (f_Mdl_load (f_Mdl_find T (19 : Int32)).2 (f_Mdl_is T (32 : Int32))).2 (f_Mdl_load (f_Mdl_find T (19 : Int32)).2 (f_Mdl_is T (32 : Int32))).1))) := rfl
  rw [e, fd1_19, if_neg (by decide : ¬ (1 : Int32) = 0)]
theorem o_73 {S T : Sc} (h : RR S T) : KO (f_Prc_useAccumulator S (115 : Int32)) (f_Mdl_arithmetic T (115 : Int32)) := by
  rw [ec_73, em_73]
  obtain ⟨f1, f2, f3, f4⟩ := sp_19 h
  obtain ⟨l1, l2, l3⟩ := s_load f2 f3 (WN_A h)
  have lf := (fr_rv (S := (f_Opd_place S 19).2) (c := (f_Opd_place S 19).1) (WN_A h)).trans f4
  have hw := WN_fr h lf
  exact ⟨rfl, rfl, s_add2 l3 l1⟩
theorem ec_75 (S : Sc) : f_Prc_useAccumulator S (117 : Int32) = ((1 : Int32), (f_Prc_addToA (f_Bus_readValue (f_Opd_place S (21 : Int32)).2 (f_Opd_place S (21 : Int32)).1 (f_Reg_wideA S)).2 (f_Bus_readValue (f_Opd_place S (21 : Int32)).2 (f_Opd_place S (21 : Int32)).1 (f_Reg_wideA S)).1)) := rfl
theorem em_75 (T : Sc) : f_Mdl_arithmetic T (117 : Int32) = ((1 : Int32), (f_Mdl_add (f_Mdl_load (f_Mdl_find T (21 : Int32)).2 (f_Mdl_is T (32 : Int32))).2 (f_Mdl_load (f_Mdl_find T (21 : Int32)).2 (f_Mdl_is T (32 : Int32))).1)) := by
  have e : f_Mdl_arithmetic T (117 : Int32) = if (f_Mdl_find T (21 : Int32)).1 = (0 : Int32) then (((0 : Int32), (f_Mdl_find T (21 : Int32)).2)) else (((1 : Int32), (f_Mdl_add (f_Mdl_load (f_Mdl_find T (21 : Int32)).2 (f_Mdl_is T (32 : Int32))).2 (f_Mdl_load (f_Mdl_find T (21 : Int32)).2 (f_Mdl_is T (32 : Int32))).1))) := rfl
  rw [e, fd1_21, if_neg (by decide : ¬ (1 : Int32) = 0)]
theorem o_75 {S T : Sc} (h : RR S T) : KO (f_Prc_useAccumulator S (117 : Int32)) (f_Mdl_arithmetic T (117 : Int32)) := by
  rw [ec_75, em_75]
  obtain ⟨f1, f2, f3, f4⟩ := sp_21 h
  obtain ⟨l1, l2, l3⟩ := s_load f2 f3 (WN_A h)
  have lf := (fr_rv (S := (f_Opd_place S 21).2) (c := (f_Opd_place S 21).1) (WN_A h)).trans f4
  have hw := WN_fr h lf
  exact ⟨rfl, rfl, s_add2 l3 l1⟩
theorem ec_77 (S : Sc) : f_Prc_useAccumulator S (119 : Int32) = ((1 : Int32), (f_Prc_addToA (f_Bus_readValue (f_Opd_place S (23 : Int32)).2 (f_Opd_place S (23 : Int32)).1 (f_Reg_wideA S)).2 (f_Bus_readValue (f_Opd_place S (23 : Int32)).2 (f_Opd_place S (23 : Int32)).1 (f_Reg_wideA S)).1)) := rfl
theorem em_77 (T : Sc) : f_Mdl_arithmetic T (119 : Int32) = ((1 : Int32), (f_Mdl_add (f_Mdl_load (f_Mdl_find T (23 : Int32)).2 (f_Mdl_is T (32 : Int32))).2 (f_Mdl_load (f_Mdl_find T (23 : Int32)).2 (f_Mdl_is T (32 : Int32))).1)) := by
  have e : f_Mdl_arithmetic T (119 : Int32) = if (f_Mdl_find T (23 : Int32)).1 = (0 : Int32) then (((0 : Int32), (f_Mdl_find T (23 : Int32)).2)) else (((1 : Int32), (f_Mdl_add (f_Mdl_load (f_Mdl_find T (23 : Int32)).2 (f_Mdl_is T (32 : Int32))).2 (f_Mdl_load (f_Mdl_find T (23 : Int32)).2 (f_Mdl_is T (32 : Int32))).1))) := rfl
  rw [e, fd1_23, if_neg (by decide : ¬ (1 : Int32) = 0)]
theorem o_77 {S T : Sc} (h : RR S T) : KO (f_Prc_useAccumulator S (119 : Int32)) (f_Mdl_arithmetic T (119 : Int32)) := by
  rw [ec_77, em_77]
  obtain ⟨f1, f2, f3, f4⟩ := sp_23 h
  obtain ⟨l1, l2, l3⟩ := s_load f2 f3 (WN_A h)
  have lf := (fr_rv (S := (f_Opd_place S 23).2) (c := (f_Opd_place S 23).1) (WN_A h)).trans f4
  have hw := WN_fr h lf
  exact ⟨rfl, rfl, s_add2 l3 l1⟩
theorem ec_78 (S : Sc) : f_Prc_changeFlags S (120 : Int32) = ((1 : Int32), (f_Reg_putFlag S (4 : Int32) (1 : Int32))) := rfl
theorem em_78 (T : Sc) : f_Mdl_other T (120 : Int32) = ((1 : Int32), (f_Mdl_flag T (4 : Int32) (1 : Int32))) := rfl
theorem o_78 {S T : Sc} (h : RR S T) : KO (f_Prc_changeFlags S (120 : Int32)) (f_Mdl_other T (120 : Int32)) := by
  rw [ec_78, em_78]
  exact ⟨rfl, rfl, s_flag h 4 1 (by decide)⟩
theorem ec_79 (S : Sc) : f_Prc_useAccumulator S (121 : Int32) = ((1 : Int32), (f_Prc_addToA (f_Bus_readValue (f_Opd_place S (25 : Int32)).2 (f_Opd_place S (25 : Int32)).1 (f_Reg_wideA S)).2 (f_Bus_readValue (f_Opd_place S (25 : Int32)).2 (f_Opd_place S (25 : Int32)).1 (f_Reg_wideA S)).1)) := rfl
theorem em_79 (T : Sc) : f_Mdl_arithmetic T (121 : Int32) = ((1 : Int32), (f_Mdl_add (f_Mdl_load (f_Mdl_find T (25 : Int32)).2 (f_Mdl_is T (32 : Int32))).2 (f_Mdl_load (f_Mdl_find T (25 : Int32)).2 (f_Mdl_is T (32 : Int32))).1)) := by
  have e : f_Mdl_arithmetic T (121 : Int32) = if (f_Mdl_find T (25 : Int32)).1 = (0 : Int32) then (((0 : Int32), (f_Mdl_find T (25 : Int32)).2)) else (((1 : Int32), (f_Mdl_add (f_Mdl_load (f_Mdl_find T (25 : Int32)).2 (f_Mdl_is T (32 : Int32))).2 (f_Mdl_load (f_Mdl_find T (25 : Int32)).2 (f_Mdl_is T (32 : Int32))).1))) := rfl
  rw [e, fd1_25, if_neg (by decide : ¬ (1 : Int32) = 0)]
theorem o_79 {S T : Sc} (h : RR S T) : KO (f_Prc_useAccumulator S (121 : Int32)) (f_Mdl_arithmetic T (121 : Int32)) := by
  rw [ec_79, em_79]
  obtain ⟨f1, f2, f3, f4⟩ := sp_25 h
  obtain ⟨l1, l2, l3⟩ := s_load f2 f3 (WN_A h)
  have lf := (fr_rv (S := (f_Opd_place S 25).2) (c := (f_Opd_place S 25).1) (WN_A h)).trans f4
  have hw := WN_fr h lf
  exact ⟨rfl, rfl, s_add2 l3 l1⟩
theorem ec_7A (S : Sc) : f_Prc_pull S (122 : Int32) = ((1 : Int32), (f_Reg_loadY (f_Stk_pullValue S (f_Reg_wideIndex S)).2 (f_Stk_pullValue S (f_Reg_wideIndex S)).1)) := rfl
theorem em_7A (T : Sc) : f_Mdl_stack T (122 : Int32) = ((1 : Int32), (pr (f_Mdl_pullOf T (f_Mdl_is T (16 : Int32))).2 2 ((f_Mdl_pullOf T (f_Mdl_is T (16 : Int32))).1))) := rfl
theorem o_7A {S T : Sc} (h : RR S T) : KO (f_Prc_pull S (122 : Int32)) (f_Mdl_stack T (122 : Int32)) := by
  rw [ec_7A, em_7A]
  obtain ⟨r, T2, q1, q2, q3, q4⟩ := s_pv h (WN_I h)
  rw [q1]
  exact ⟨rfl, rfl, s_loadY2 q3 (WN_fi h q4) q2⟩
theorem ec_7B (S : Sc) : f_Prc_transfer S (123 : Int32) = ((1 : Int32), (f_Reg_loadC S (S.1 4))) := rfl
theorem em_7B (T : Sc) : f_Mdl_transfer T (123 : Int32) = ((1 : Int32), (pr (f_Mdl_result T (T.1 4) (0 : Int32)).2 0 ((f_Mdl_result T (T.1 4) (0 : Int32)).1))) := rfl
theorem o_7B {S T : Sc} (h : RR S T) : KO (f_Prc_transfer S (123 : Int32)) (f_Mdl_transfer T (123 : Int32)) := by
  rw [ec_7B, em_7B]
  have k := s_loadC h (RRr_4 h)
  rw [RRe_4 h] at k
  refine ⟨rfl, rfl, ?_⟩
  show RR (f_Reg_loadC S (S.1 4)) _
  rw [RRe_4 h]; exact k
theorem ec_7D (S : Sc) : f_Prc_useAccumulator S (125 : Int32) = ((1 : Int32), (f_Prc_addToA (f_Bus_readValue (f_Opd_place S (29 : Int32)).2 (f_Opd_place S (29 : Int32)).1 (f_Reg_wideA S)).2 (f_Bus_readValue (f_Opd_place S (29 : Int32)).2 (f_Opd_place S (29 : Int32)).1 (f_Reg_wideA S)).1)) := rfl
theorem em_7D (T : Sc) : f_Mdl_arithmetic T (125 : Int32) = ((1 : Int32), (f_Mdl_add (f_Mdl_load (f_Mdl_find T (29 : Int32)).2 (f_Mdl_is T (32 : Int32))).2 (f_Mdl_load (f_Mdl_find T (29 : Int32)).2 (f_Mdl_is T (32 : Int32))).1)) := by
  have e : f_Mdl_arithmetic T (125 : Int32) = if (f_Mdl_find T (29 : Int32)).1 = (0 : Int32) then (((0 : Int32), (f_Mdl_find T (29 : Int32)).2)) else (((1 : Int32), (f_Mdl_add (f_Mdl_load (f_Mdl_find T (29 : Int32)).2 (f_Mdl_is T (32 : Int32))).2 (f_Mdl_load (f_Mdl_find T (29 : Int32)).2 (f_Mdl_is T (32 : Int32))).1))) := rfl
  rw [e, fd1_29, if_neg (by decide : ¬ (1 : Int32) = 0)]
theorem o_7D {S T : Sc} (h : RR S T) : KO (f_Prc_useAccumulator S (125 : Int32)) (f_Mdl_arithmetic T (125 : Int32)) := by
  rw [ec_7D, em_7D]
  obtain ⟨f1, f2, f3, f4⟩ := sp_29 h
  obtain ⟨l1, l2, l3⟩ := s_load f2 f3 (WN_A h)
  have lf := (fr_rv (S := (f_Opd_place S 29).2) (c := (f_Opd_place S 29).1) (WN_A h)).trans f4
  have hw := WN_fr h lf
  exact ⟨rfl, rfl, s_add2 l3 l1⟩
theorem ec_7F (S : Sc) : f_Prc_useAccumulator S (127 : Int32) = ((1 : Int32), (f_Prc_addToA (f_Bus_readValue (f_Opd_place S (31 : Int32)).2 (f_Opd_place S (31 : Int32)).1 (f_Reg_wideA S)).2 (f_Bus_readValue (f_Opd_place S (31 : Int32)).2 (f_Opd_place S (31 : Int32)).1 (f_Reg_wideA S)).1)) := rfl
theorem em_7F (T : Sc) : f_Mdl_arithmetic T (127 : Int32) = ((1 : Int32), (f_Mdl_add (f_Mdl_load (f_Mdl_find T (31 : Int32)).2 (f_Mdl_is T (32 : Int32))).2 (f_Mdl_load (f_Mdl_find T (31 : Int32)).2 (f_Mdl_is T (32 : Int32))).1)) := by
  have e : f_Mdl_arithmetic T (127 : Int32) = if (f_Mdl_find T (31 : Int32)).1 = (0 : Int32) then (((0 : Int32), (f_Mdl_find T (31 : Int32)).2)) else (((1 : Int32), (f_Mdl_add (f_Mdl_load (f_Mdl_find T (31 : Int32)).2 (f_Mdl_is T (32 : Int32))).2 (f_Mdl_load (f_Mdl_find T (31 : Int32)).2 (f_Mdl_is T (32 : Int32))).1))) := rfl
  rw [e, fd1_31, if_neg (by decide : ¬ (1 : Int32) = 0)]
theorem o_7F {S T : Sc} (h : RR S T) : KO (f_Prc_useAccumulator S (127 : Int32)) (f_Mdl_arithmetic T (127 : Int32)) := by
  rw [ec_7F, em_7F]
  obtain ⟨f1, f2, f3, f4⟩ := sp_31 h
  obtain ⟨l1, l2, l3⟩ := s_load f2 f3 (WN_A h)
  have lf := (fr_rv (S := (f_Opd_place S 31).2) (c := (f_Opd_place S 31).1) (WN_A h)).trans f4
  have hw := WN_fr h lf
  exact ⟨rfl, rfl, s_add2 l3 l1⟩
theorem ec_80 (S : Sc) : f_Prc_branch S (128 : Int32) = ((1 : Int32), (f_Reg_jumpTo (f_Opd_nextByte S).2 (((f_Opd_nextByte S).2.1 7) + (((f_Opd_nextByte S).1).toInt8.toInt32)))) := rfl
theorem em_80 (T : Sc) : f_Mdl_jump T (128 : Int32) = ((1 : Int32), (f_Mdl_branch T (1 : Int32))) := rfl
theorem o_80 {S T : Sc} (h : RR S T) : KO (f_Prc_branch S (128 : Int32)) (f_Mdl_jump T (128 : Int32)) := by
  rw [ec_80, em_80]
  exact ⟨rfl, rfl, (s_br (x := 1) h).1 (by decide)⟩
theorem ec_81 (S : Sc) : f_Prc_useAccumulator S (129 : Int32) = ((1 : Int32), (f_Bus_writeValue (f_Opd_place S (1 : Int32)).2 (f_Opd_place S (1 : Int32)).1 ((f_Opd_place S (1 : Int32)).2.1 0) (f_Reg_wideA S))) := rfl
theorem em_81 (T : Sc) : f_Mdl_arithmetic T (129 : Int32) = ((1 : Int32), (f_Mdl_store (f_Mdl_find T (1 : Int32)).2 (f_Mdl_accumulator (f_Mdl_find T (1 : Int32)).2) (f_Mdl_is T (32 : Int32)))) := by
  have e : f_Mdl_arithmetic T (129 : Int32) = if (f_Mdl_find T (1 : Int32)).1 = (0 : Int32) then (((0 : Int32), (f_Mdl_find T (1 : Int32)).2)) else (((1 : Int32), (f_Mdl_store (f_Mdl_find T (1 : Int32)).2 (f_Mdl_accumulator (f_Mdl_find T (1 : Int32)).2) (f_Mdl_is T (32 : Int32))))) := rfl
  rw [e, fd1_1, if_neg (by decide : ¬ (1 : Int32) = 0)]
theorem o_81 {S T : Sc} (h : RR S T) : KO (f_Prc_useAccumulator S (129 : Int32)) (f_Mdl_arithmetic T (129 : Int32)) := by
  rw [ec_81, em_81]
  obtain ⟨f1, f2, f3, f4⟩ := sp_1 h
  exact ⟨rfl, rfl, s_store f2 f3 (WN_A h) (acc_255 f2) (fun z => acc_w f2 ((is_p (RRe_8 f2) (by rw [f4]; exact WN_A h)) : f_Mdl_is _ 32 = f_Mdl_is T 32) z)⟩
theorem ec_82 (S : Sc) : f_Prc_branch S (130 : Int32) = ((1 : Int32), (f_Reg_jumpTo (f_Opd_nextWord S).2 (((f_Opd_nextWord S).2.1 7) + (f_Opd_nextWord S).1))) := rfl
theorem em_82 (T : Sc) : f_Mdl_jump T (130 : Int32) = ((1 : Int32), (pr (f_Mdl_nextWord T).2 8 (((((f_Mdl_nextWord T).2.1 8) + (f_Mdl_nextWord T).1) &&& (65535 : Int32))))) := rfl
theorem o_82 {S T : Sc} (h : RR S T) : KO (f_Prc_branch S (130 : Int32)) (f_Mdl_jump T (130 : Int32)) := by
  rw [ec_82, em_82]
  obtain ⟨a1, a2, a3⟩ := s_nw h
  exact ⟨rfl, rfl, s_jump a3 (by rw [a1, RRe_7 a3])⟩
theorem ec_83 (S : Sc) : f_Prc_useAccumulator S (131 : Int32) = ((1 : Int32), (f_Bus_writeValue (f_Opd_place S (3 : Int32)).2 (f_Opd_place S (3 : Int32)).1 ((f_Opd_place S (3 : Int32)).2.1 0) (f_Reg_wideA S))) := rfl
theorem em_83 (T : Sc) : f_Mdl_arithmetic T (131 : Int32) = ((1 : Int32), (f_Mdl_store (f_Mdl_find T (3 : Int32)).2 (f_Mdl_accumulator (f_Mdl_find T (3 : Int32)).2) (f_Mdl_is T (32 : Int32)))) := by
  have e : f_Mdl_arithmetic T (131 : Int32) = if (f_Mdl_find T (3 : Int32)).1 = (0 : Int32) then (((0 : Int32), (f_Mdl_find T (3 : Int32)).2)) else (((1 : Int32), (f_Mdl_store (f_Mdl_find T (3 : Int32)).2 (f_Mdl_accumulator (f_Mdl_find T (3 : Int32)).2) (f_Mdl_is T (32 : Int32))))) := rfl
  rw [e, fd1_3, if_neg (by decide : ¬ (1 : Int32) = 0)]
theorem o_83 {S T : Sc} (h : RR S T) : KO (f_Prc_useAccumulator S (131 : Int32)) (f_Mdl_arithmetic T (131 : Int32)) := by
  rw [ec_83, em_83]
  obtain ⟨f1, f2, f3, f4⟩ := sp_3 h
  exact ⟨rfl, rfl, s_store f2 f3 (WN_A h) (acc_255 f2) (fun z => acc_w f2 ((is_p (RRe_8 f2) (by rw [f4]; exact WN_A h)) : f_Mdl_is _ 32 = f_Mdl_is T 32) z)⟩
theorem ec_84 (S : Sc) : f_Prc_useIndex S (132 : Int32) = ((1 : Int32), (f_Bus_writeValue (f_Opd_place S (5 : Int32)).2 (f_Opd_place S (5 : Int32)).1 ((f_Opd_place S (5 : Int32)).2.1 2) (f_Reg_wideIndex S))) := rfl
theorem em_84 (T : Sc) : f_Mdl_index T (132 : Int32) = ((1 : Int32), (f_Mdl_storeAt T (0 : Int32) (T.1 2) (f_Mdl_is T (16 : Int32)))) := rfl
theorem o_84 {S T : Sc} (h : RR S T) : KO (f_Prc_useIndex S (132 : Int32)) (f_Mdl_index T (132 : Int32)) := by
  rw [ec_84, em_84]
  obtain ⟨f2, f3, f4, f5⟩ := sp_fi h 5 0 (Or.inl ⟨rfl, rfl⟩)
  have e : (f_Opd_place S 5).2.1 2 = T.1 2 := (show (f_Opd_place S 5).2.1 2 = S.1 2 by rw [pl_5]; rfl).trans (RRe_2 h)
  rw [sa_eq]
  exact ⟨rfl, rfl, s_store f2 f3 (WN_I h) (by rw [e]) (fun _ => e)⟩
theorem ec_85 (S : Sc) : f_Prc_useAccumulator S (133 : Int32) = ((1 : Int32), (f_Bus_writeValue (f_Opd_place S (5 : Int32)).2 (f_Opd_place S (5 : Int32)).1 ((f_Opd_place S (5 : Int32)).2.1 0) (f_Reg_wideA S))) := rfl
theorem em_85 (T : Sc) : f_Mdl_arithmetic T (133 : Int32) = ((1 : Int32), (f_Mdl_store (f_Mdl_find T (5 : Int32)).2 (f_Mdl_accumulator (f_Mdl_find T (5 : Int32)).2) (f_Mdl_is T (32 : Int32)))) := by
  have e : f_Mdl_arithmetic T (133 : Int32) = if (f_Mdl_find T (5 : Int32)).1 = (0 : Int32) then (((0 : Int32), (f_Mdl_find T (5 : Int32)).2)) else (((1 : Int32), (f_Mdl_store (f_Mdl_find T (5 : Int32)).2 (f_Mdl_accumulator (f_Mdl_find T (5 : Int32)).2) (f_Mdl_is T (32 : Int32))))) := rfl
  rw [e, fd1_5, if_neg (by decide : ¬ (1 : Int32) = 0)]
theorem o_85 {S T : Sc} (h : RR S T) : KO (f_Prc_useAccumulator S (133 : Int32)) (f_Mdl_arithmetic T (133 : Int32)) := by
  rw [ec_85, em_85]
  obtain ⟨f1, f2, f3, f4⟩ := sp_5 h
  exact ⟨rfl, rfl, s_store f2 f3 (WN_A h) (acc_255 f2) (fun z => acc_w f2 ((is_p (RRe_8 f2) (by rw [f4]; exact WN_A h)) : f_Mdl_is _ 32 = f_Mdl_is T 32) z)⟩
theorem ec_86 (S : Sc) : f_Prc_useIndex S (134 : Int32) = ((1 : Int32), (f_Bus_writeValue (f_Opd_place S (5 : Int32)).2 (f_Opd_place S (5 : Int32)).1 ((f_Opd_place S (5 : Int32)).2.1 1) (f_Reg_wideIndex S))) := rfl
theorem em_86 (T : Sc) : f_Mdl_index T (134 : Int32) = ((1 : Int32), (f_Mdl_storeAt T (0 : Int32) (T.1 1) (f_Mdl_is T (16 : Int32)))) := rfl
theorem o_86 {S T : Sc} (h : RR S T) : KO (f_Prc_useIndex S (134 : Int32)) (f_Mdl_index T (134 : Int32)) := by
  rw [ec_86, em_86]
  obtain ⟨f2, f3, f4, f5⟩ := sp_fi h 5 0 (Or.inl ⟨rfl, rfl⟩)
  have e : (f_Opd_place S 5).2.1 1 = T.1 1 := (show (f_Opd_place S 5).2.1 1 = S.1 1 by rw [pl_5]; rfl).trans (RRe_1 h)
  rw [sa_eq]
  exact ⟨rfl, rfl, s_store f2 f3 (WN_I h) (by rw [e]) (fun _ => e)⟩
theorem ec_87 (S : Sc) : f_Prc_useAccumulator S (135 : Int32) = ((1 : Int32), (f_Bus_writeValue (f_Opd_place S (7 : Int32)).2 (f_Opd_place S (7 : Int32)).1 ((f_Opd_place S (7 : Int32)).2.1 0) (f_Reg_wideA S))) := rfl
theorem em_87 (T : Sc) : f_Mdl_arithmetic T (135 : Int32) = ((1 : Int32), (f_Mdl_store (f_Mdl_find T (7 : Int32)).2 (f_Mdl_accumulator (f_Mdl_find T (7 : Int32)).2) (f_Mdl_is T (32 : Int32)))) := by
  have e : f_Mdl_arithmetic T (135 : Int32) = if (f_Mdl_find T (7 : Int32)).1 = (0 : Int32) then (((0 : Int32), (f_Mdl_find T (7 : Int32)).2)) else (((1 : Int32), (f_Mdl_store (f_Mdl_find T (7 : Int32)).2 (f_Mdl_accumulator (f_Mdl_find T (7 : Int32)).2) (f_Mdl_is T (32 : Int32))))) := rfl
  rw [e, fd1_7, if_neg (by decide : ¬ (1 : Int32) = 0)]
theorem o_87 {S T : Sc} (h : RR S T) : KO (f_Prc_useAccumulator S (135 : Int32)) (f_Mdl_arithmetic T (135 : Int32)) := by
  rw [ec_87, em_87]
  obtain ⟨f1, f2, f3, f4⟩ := sp_7 h
  exact ⟨rfl, rfl, s_store f2 f3 (WN_A h) (acc_255 f2) (fun z => acc_w f2 ((is_p (RRe_8 f2) (by rw [f4]; exact WN_A h)) : f_Mdl_is _ 32 = f_Mdl_is T 32) z)⟩
theorem ec_88 (S : Sc) : f_Prc_changeRegister S (136 : Int32) = ((1 : Int32), (f_Reg_loadY S ((S.1 2) - (1 : Int32)))) := rfl
theorem em_88 (T : Sc) : f_Mdl_index T (136 : Int32) = ((1 : Int32), (pr (f_Mdl_result T ((T.1 2) - (1 : Int32)) (f_Mdl_is T (16 : Int32))).2 2 ((f_Mdl_result T ((T.1 2) - (1 : Int32)) (f_Mdl_is T (16 : Int32))).1))) := rfl
theorem o_88 {S T : Sc} (h : RR S T) : KO (f_Prc_changeRegister S (136 : Int32)) (f_Mdl_index T (136 : Int32)) := by
  rw [ec_88, em_88]
  exact ⟨rfl, rfl, s_loadY2 h (WN_I h) (by rw [RRe_2 h])⟩
theorem ec_8A (S : Sc) : f_Prc_transfer S (138 : Int32) = ((1 : Int32), (f_Reg_loadA S (S.1 1))) := rfl
theorem em_8A (T : Sc) : f_Mdl_transfer T (138 : Int32) = ((1 : Int32), (f_Mdl_setAccumulator (f_Mdl_result T (T.1 1) (f_Mdl_is T (32 : Int32))).2 (f_Mdl_result T (T.1 1) (f_Mdl_is T (32 : Int32))).1)) := rfl
theorem o_8A {S T : Sc} (h : RR S T) : KO (f_Prc_transfer S (138 : Int32)) (f_Mdl_transfer T (138 : Int32)) := by
  rw [ec_8A, em_8A]
  exact ⟨rfl, rfl, s_setA2 h (WN_A h) (RRe_1 h)⟩
theorem ec_8B (S : Sc) : f_Prc_push S (139 : Int32) = ((1 : Int32), (f_Stk_pushByte S (S.1 5))) := rfl
theorem em_8B (T : Sc) : f_Mdl_stack T (139 : Int32) = ((1 : Int32), (f_Mdl_push T (T.1 5))) := rfl
theorem o_8B {S T : Sc} (h : RR S T) : KO (f_Prc_push S (139 : Int32)) (f_Mdl_stack T (139 : Int32)) := by
  rw [ec_8B, em_8B]
  exact ⟨rfl, rfl, s_push h (by rw [RRe_5 h])⟩
theorem ec_8C (S : Sc) : f_Prc_useIndex S (140 : Int32) = ((1 : Int32), (f_Bus_writeValue (f_Opd_place S (13 : Int32)).2 (f_Opd_place S (13 : Int32)).1 ((f_Opd_place S (13 : Int32)).2.1 2) (f_Reg_wideIndex S))) := rfl
theorem em_8C (T : Sc) : f_Mdl_index T (140 : Int32) = ((1 : Int32), (f_Mdl_storeAt T (1 : Int32) (T.1 2) (f_Mdl_is T (16 : Int32)))) := rfl
theorem o_8C {S T : Sc} (h : RR S T) : KO (f_Prc_useIndex S (140 : Int32)) (f_Mdl_index T (140 : Int32)) := by
  rw [ec_8C, em_8C]
  obtain ⟨f2, f3, f4, f5⟩ := sp_fi h 13 1 (Or.inr ⟨rfl, rfl⟩)
  have e : (f_Opd_place S 13).2.1 2 = T.1 2 := (show (f_Opd_place S 13).2.1 2 = S.1 2 by rw [pl_13]; rfl).trans (RRe_2 h)
  rw [sa_eq]
  exact ⟨rfl, rfl, s_store f2 f3 (WN_I h) (by rw [e]) (fun _ => e)⟩
theorem ec_8D (S : Sc) : f_Prc_useAccumulator S (141 : Int32) = ((1 : Int32), (f_Bus_writeValue (f_Opd_place S (13 : Int32)).2 (f_Opd_place S (13 : Int32)).1 ((f_Opd_place S (13 : Int32)).2.1 0) (f_Reg_wideA S))) := rfl
theorem em_8D (T : Sc) : f_Mdl_arithmetic T (141 : Int32) = ((1 : Int32), (f_Mdl_store (f_Mdl_find T (13 : Int32)).2 (f_Mdl_accumulator (f_Mdl_find T (13 : Int32)).2) (f_Mdl_is T (32 : Int32)))) := by
  have e : f_Mdl_arithmetic T (141 : Int32) = if (f_Mdl_find T (13 : Int32)).1 = (0 : Int32) then (((0 : Int32), (f_Mdl_find T (13 : Int32)).2)) else (((1 : Int32), (f_Mdl_store (f_Mdl_find T (13 : Int32)).2 (f_Mdl_accumulator (f_Mdl_find T (13 : Int32)).2) (f_Mdl_is T (32 : Int32))))) := rfl
  rw [e, fd1_13, if_neg (by decide : ¬ (1 : Int32) = 0)]
theorem o_8D {S T : Sc} (h : RR S T) : KO (f_Prc_useAccumulator S (141 : Int32)) (f_Mdl_arithmetic T (141 : Int32)) := by
  rw [ec_8D, em_8D]
  obtain ⟨f1, f2, f3, f4⟩ := sp_13 h
  exact ⟨rfl, rfl, s_store f2 f3 (WN_A h) (acc_255 f2) (fun z => acc_w f2 ((is_p (RRe_8 f2) (by rw [f4]; exact WN_A h)) : f_Mdl_is _ 32 = f_Mdl_is T 32) z)⟩
theorem ec_8E (S : Sc) : f_Prc_useIndex S (142 : Int32) = ((1 : Int32), (f_Bus_writeValue (f_Opd_place S (13 : Int32)).2 (f_Opd_place S (13 : Int32)).1 ((f_Opd_place S (13 : Int32)).2.1 1) (f_Reg_wideIndex S))) := rfl
theorem em_8E (T : Sc) : f_Mdl_index T (142 : Int32) = ((1 : Int32), (f_Mdl_storeAt T (1 : Int32) (T.1 1) (f_Mdl_is T (16 : Int32)))) := rfl
theorem o_8E {S T : Sc} (h : RR S T) : KO (f_Prc_useIndex S (142 : Int32)) (f_Mdl_index T (142 : Int32)) := by
  rw [ec_8E, em_8E]
  obtain ⟨f2, f3, f4, f5⟩ := sp_fi h 13 1 (Or.inr ⟨rfl, rfl⟩)
  have e : (f_Opd_place S 13).2.1 1 = T.1 1 := (show (f_Opd_place S 13).2.1 1 = S.1 1 by rw [pl_13]; rfl).trans (RRe_1 h)
  rw [sa_eq]
  exact ⟨rfl, rfl, s_store f2 f3 (WN_I h) (by rw [e]) (fun _ => e)⟩
theorem ec_8F (S : Sc) : f_Prc_useAccumulator S (143 : Int32) = ((1 : Int32), (f_Bus_writeValue (f_Opd_place S (15 : Int32)).2 (f_Opd_place S (15 : Int32)).1 ((f_Opd_place S (15 : Int32)).2.1 0) (f_Reg_wideA S))) := rfl
theorem em_8F (T : Sc) : f_Mdl_arithmetic T (143 : Int32) = ((1 : Int32), (f_Mdl_store (f_Mdl_find T (15 : Int32)).2 (f_Mdl_accumulator (f_Mdl_find T (15 : Int32)).2) (f_Mdl_is T (32 : Int32)))) := by
  have e : f_Mdl_arithmetic T (143 : Int32) = if (f_Mdl_find T (15 : Int32)).1 = (0 : Int32) then (((0 : Int32), (f_Mdl_find T (15 : Int32)).2)) else (((1 : Int32), (f_Mdl_store (f_Mdl_find T (15 : Int32)).2 (f_Mdl_accumulator (f_Mdl_find T (15 : Int32)).2) (f_Mdl_is T (32 : Int32))))) := rfl
  rw [e, fd1_15, if_neg (by decide : ¬ (1 : Int32) = 0)]
theorem o_8F {S T : Sc} (h : RR S T) : KO (f_Prc_useAccumulator S (143 : Int32)) (f_Mdl_arithmetic T (143 : Int32)) := by
  rw [ec_8F, em_8F]
  obtain ⟨f1, f2, f3, f4⟩ := sp_15 h
  exact ⟨rfl, rfl, s_store f2 f3 (WN_A h) (acc_255 f2) (fun z => acc_w f2 ((is_p (RRe_8 f2) (by rw [f4]; exact WN_A h)) : f_Mdl_is _ 32 = f_Mdl_is T 32) z)⟩
theorem ec_90 (S : Sc) : f_Prc_branch S (144 : Int32) = if (f_Reg_has (f_Opd_nextByte S).2 (bf ((2 : Int32)).toNatClampNeg)) = (0 : Int32) then (((1 : Int32), (f_Reg_jumpTo (f_Opd_nextByte S).2 (((f_Opd_nextByte S).2.1 7) + (((f_Opd_nextByte S).1).toInt8.toInt32))))) else (((1 : Int32), (f_Opd_nextByte S).2)) := rfl
theorem em_90 (T : Sc) : f_Mdl_jump T (144 : Int32) = if (f_Mdl_is T (1 : Int32)) = (0 : Int32) then (((1 : Int32), (f_Mdl_branch T (1 : Int32)))) else (((1 : Int32), (f_Mdl_branch T (0 : Int32)))) := rfl
theorem o_90 {S T : Sc} (h : RR S T) : KO (f_Prc_branch S (144 : Int32)) (f_Mdl_jump T (144 : Int32)) := by
  rw [ec_90, em_90]
  have e : f_Reg_has (f_Opd_nextByte S).2 (1 : Int32) = f_Mdl_is T (1 : Int32) := has_n h (1 : Int32)
  have eb : bf (2 : Int32).toNatClampNeg = (1 : Int32) := rfl
  rw [eb, e]
  by_cases z : f_Mdl_is T (1 : Int32) = (0 : Int32)
  · rw [if_pos z, if_pos z]; exact ⟨rfl, rfl, (s_br (x := 1) h).1 (by decide)⟩
  · rw [if_neg z, if_neg z]; exact ⟨rfl, rfl, (s_br (x := 0) h).2 rfl⟩
theorem ec_91 (S : Sc) : f_Prc_useAccumulator S (145 : Int32) = ((1 : Int32), (f_Bus_writeValue (f_Opd_place S (17 : Int32)).2 (f_Opd_place S (17 : Int32)).1 ((f_Opd_place S (17 : Int32)).2.1 0) (f_Reg_wideA S))) := rfl
theorem em_91 (T : Sc) : f_Mdl_arithmetic T (145 : Int32) = ((1 : Int32), (f_Mdl_store (f_Mdl_find T (17 : Int32)).2 (f_Mdl_accumulator (f_Mdl_find T (17 : Int32)).2) (f_Mdl_is T (32 : Int32)))) := by
  have e : f_Mdl_arithmetic T (145 : Int32) = if (f_Mdl_find T (17 : Int32)).1 = (0 : Int32) then (((0 : Int32), (f_Mdl_find T (17 : Int32)).2)) else (((1 : Int32), (f_Mdl_store (f_Mdl_find T (17 : Int32)).2 (f_Mdl_accumulator (f_Mdl_find T (17 : Int32)).2) (f_Mdl_is T (32 : Int32))))) := rfl
  rw [e, fd1_17, if_neg (by decide : ¬ (1 : Int32) = 0)]
theorem o_91 {S T : Sc} (h : RR S T) : KO (f_Prc_useAccumulator S (145 : Int32)) (f_Mdl_arithmetic T (145 : Int32)) := by
  rw [ec_91, em_91]
  obtain ⟨f1, f2, f3, f4⟩ := sp_17 h
  exact ⟨rfl, rfl, s_store f2 f3 (WN_A h) (acc_255 f2) (fun z => acc_w f2 ((is_p (RRe_8 f2) (by rw [f4]; exact WN_A h)) : f_Mdl_is _ 32 = f_Mdl_is T 32) z)⟩
theorem ec_92 (S : Sc) : f_Prc_useAccumulator S (146 : Int32) = ((1 : Int32), (f_Bus_writeValue (f_Opd_place S (18 : Int32)).2 (f_Opd_place S (18 : Int32)).1 ((f_Opd_place S (18 : Int32)).2.1 0) (f_Reg_wideA S))) := rfl
theorem em_92 (T : Sc) : f_Mdl_arithmetic T (146 : Int32) = ((1 : Int32), (f_Mdl_store (f_Mdl_find T (18 : Int32)).2 (f_Mdl_accumulator (f_Mdl_find T (18 : Int32)).2) (f_Mdl_is T (32 : Int32)))) := by
  have e : f_Mdl_arithmetic T (146 : Int32) = if (f_Mdl_find T (18 : Int32)).1 = (0 : Int32) then (((0 : Int32), (f_Mdl_find T (18 : Int32)).2)) else (((1 : Int32), (f_Mdl_store (f_Mdl_find T (18 : Int32)).2 (f_Mdl_accumulator (f_Mdl_find T (18 : Int32)).2) (f_Mdl_is T (32 : Int32))))) := rfl
  rw [e, fd1_18, if_neg (by decide : ¬ (1 : Int32) = 0)]
theorem o_92 {S T : Sc} (h : RR S T) : KO (f_Prc_useAccumulator S (146 : Int32)) (f_Mdl_arithmetic T (146 : Int32)) := by
  rw [ec_92, em_92]
  obtain ⟨f1, f2, f3, f4⟩ := sp_18 h
  exact ⟨rfl, rfl, s_store f2 f3 (WN_A h) (acc_255 f2) (fun z => acc_w f2 ((is_p (RRe_8 f2) (by rw [f4]; exact WN_A h)) : f_Mdl_is _ 32 = f_Mdl_is T 32) z)⟩
theorem ec_93 (S : Sc) : f_Prc_useAccumulator S (147 : Int32) = ((1 : Int32), (f_Bus_writeValue (f_Opd_place S (19 : Int32)).2 (f_Opd_place S (19 : Int32)).1 ((f_Opd_place S (19 : Int32)).2.1 0) (f_Reg_wideA S))) := rfl
theorem em_93 (T : Sc) : f_Mdl_arithmetic T (147 : Int32) = ((1 : Int32), (f_Mdl_store (f_Mdl_find T (19 : Int32)).2 (f_Mdl_accumulator (f_Mdl_find T (19 : Int32)).2) (f_Mdl_is T (32 : Int32)))) := by
  have e : f_Mdl_arithmetic T (147 : Int32) = if (f_Mdl_find T (19 : Int32)).1 = (0 : Int32) then (((0 : Int32), (f_Mdl_find T (19 : Int32)).2)) else (((1 : Int32), (f_Mdl_store (f_Mdl_find T (19 : Int32)).2 (f_Mdl_accumulator (f_Mdl_find T (19 : Int32)).2) (f_Mdl_is T (32 : Int32))))) := rfl
  rw [e, fd1_19, if_neg (by decide : ¬ (1 : Int32) = 0)]
theorem o_93 {S T : Sc} (h : RR S T) : KO (f_Prc_useAccumulator S (147 : Int32)) (f_Mdl_arithmetic T (147 : Int32)) := by
  rw [ec_93, em_93]
  obtain ⟨f1, f2, f3, f4⟩ := sp_19 h
  exact ⟨rfl, rfl, s_store f2 f3 (WN_A h) (acc_255 f2) (fun z => acc_w f2 ((is_p (RRe_8 f2) (by rw [f4]; exact WN_A h)) : f_Mdl_is _ 32 = f_Mdl_is T 32) z)⟩
theorem ec_95 (S : Sc) : f_Prc_useAccumulator S (149 : Int32) = ((1 : Int32), (f_Bus_writeValue (f_Opd_place S (21 : Int32)).2 (f_Opd_place S (21 : Int32)).1 ((f_Opd_place S (21 : Int32)).2.1 0) (f_Reg_wideA S))) := rfl
theorem em_95 (T : Sc) : f_Mdl_arithmetic T (149 : Int32) = ((1 : Int32), (f_Mdl_store (f_Mdl_find T (21 : Int32)).2 (f_Mdl_accumulator (f_Mdl_find T (21 : Int32)).2) (f_Mdl_is T (32 : Int32)))) := by
  have e : f_Mdl_arithmetic T (149 : Int32) = if (f_Mdl_find T (21 : Int32)).1 = (0 : Int32) then (((0 : Int32), (f_Mdl_find T (21 : Int32)).2)) else (((1 : Int32), (f_Mdl_store (f_Mdl_find T (21 : Int32)).2 (f_Mdl_accumulator (f_Mdl_find T (21 : Int32)).2) (f_Mdl_is T (32 : Int32))))) := rfl
  rw [e, fd1_21, if_neg (by decide : ¬ (1 : Int32) = 0)]
theorem o_95 {S T : Sc} (h : RR S T) : KO (f_Prc_useAccumulator S (149 : Int32)) (f_Mdl_arithmetic T (149 : Int32)) := by
  rw [ec_95, em_95]
  obtain ⟨f1, f2, f3, f4⟩ := sp_21 h
  exact ⟨rfl, rfl, s_store f2 f3 (WN_A h) (acc_255 f2) (fun z => acc_w f2 ((is_p (RRe_8 f2) (by rw [f4]; exact WN_A h)) : f_Mdl_is _ 32 = f_Mdl_is T 32) z)⟩
theorem ec_97 (S : Sc) : f_Prc_useAccumulator S (151 : Int32) = ((1 : Int32), (f_Bus_writeValue (f_Opd_place S (23 : Int32)).2 (f_Opd_place S (23 : Int32)).1 ((f_Opd_place S (23 : Int32)).2.1 0) (f_Reg_wideA S))) := rfl
theorem em_97 (T : Sc) : f_Mdl_arithmetic T (151 : Int32) = ((1 : Int32), (f_Mdl_store (f_Mdl_find T (23 : Int32)).2 (f_Mdl_accumulator (f_Mdl_find T (23 : Int32)).2) (f_Mdl_is T (32 : Int32)))) := by
  have e : f_Mdl_arithmetic T (151 : Int32) = if (f_Mdl_find T (23 : Int32)).1 = (0 : Int32) then (((0 : Int32), (f_Mdl_find T (23 : Int32)).2)) else (((1 : Int32), (f_Mdl_store (f_Mdl_find T (23 : Int32)).2 (f_Mdl_accumulator (f_Mdl_find T (23 : Int32)).2) (f_Mdl_is T (32 : Int32))))) := rfl
  rw [e, fd1_23, if_neg (by decide : ¬ (1 : Int32) = 0)]
theorem o_97 {S T : Sc} (h : RR S T) : KO (f_Prc_useAccumulator S (151 : Int32)) (f_Mdl_arithmetic T (151 : Int32)) := by
  rw [ec_97, em_97]
  obtain ⟨f1, f2, f3, f4⟩ := sp_23 h
  exact ⟨rfl, rfl, s_store f2 f3 (WN_A h) (acc_255 f2) (fun z => acc_w f2 ((is_p (RRe_8 f2) (by rw [f4]; exact WN_A h)) : f_Mdl_is _ 32 = f_Mdl_is T 32) z)⟩
theorem ec_98 (S : Sc) : f_Prc_transfer S (152 : Int32) = ((1 : Int32), (f_Reg_loadA S (S.1 2))) := rfl
theorem em_98 (T : Sc) : f_Mdl_transfer T (152 : Int32) = ((1 : Int32), (f_Mdl_setAccumulator (f_Mdl_result T (T.1 2) (f_Mdl_is T (32 : Int32))).2 (f_Mdl_result T (T.1 2) (f_Mdl_is T (32 : Int32))).1)) := rfl
theorem o_98 {S T : Sc} (h : RR S T) : KO (f_Prc_transfer S (152 : Int32)) (f_Mdl_transfer T (152 : Int32)) := by
  rw [ec_98, em_98]
  exact ⟨rfl, rfl, s_setA2 h (WN_A h) (RRe_2 h)⟩
theorem ec_99 (S : Sc) : f_Prc_useAccumulator S (153 : Int32) = ((1 : Int32), (f_Bus_writeValue (f_Opd_place S (25 : Int32)).2 (f_Opd_place S (25 : Int32)).1 ((f_Opd_place S (25 : Int32)).2.1 0) (f_Reg_wideA S))) := rfl
theorem em_99 (T : Sc) : f_Mdl_arithmetic T (153 : Int32) = ((1 : Int32), (f_Mdl_store (f_Mdl_find T (25 : Int32)).2 (f_Mdl_accumulator (f_Mdl_find T (25 : Int32)).2) (f_Mdl_is T (32 : Int32)))) := by
  have e : f_Mdl_arithmetic T (153 : Int32) = if (f_Mdl_find T (25 : Int32)).1 = (0 : Int32) then (((0 : Int32), (f_Mdl_find T (25 : Int32)).2)) else (((1 : Int32), (f_Mdl_store (f_Mdl_find T (25 : Int32)).2 (f_Mdl_accumulator (f_Mdl_find T (25 : Int32)).2) (f_Mdl_is T (32 : Int32))))) := rfl
  rw [e, fd1_25, if_neg (by decide : ¬ (1 : Int32) = 0)]
theorem o_99 {S T : Sc} (h : RR S T) : KO (f_Prc_useAccumulator S (153 : Int32)) (f_Mdl_arithmetic T (153 : Int32)) := by
  rw [ec_99, em_99]
  obtain ⟨f1, f2, f3, f4⟩ := sp_25 h
  exact ⟨rfl, rfl, s_store f2 f3 (WN_A h) (acc_255 f2) (fun z => acc_w f2 ((is_p (RRe_8 f2) (by rw [f4]; exact WN_A h)) : f_Mdl_is _ 32 = f_Mdl_is T 32) z)⟩
theorem ec_9A (S : Sc) : f_Prc_transfer S (154 : Int32) = ((1 : Int32), (pr S 3 (S.1 1))) := rfl
theorem em_9A (T : Sc) : f_Mdl_transfer T (154 : Int32) = ((1 : Int32), (pr T 3 (T.1 1))) := rfl
theorem o_9A {S T : Sc} (h : RR S T) : KO (f_Prc_transfer S (154 : Int32)) (f_Mdl_transfer T (154 : Int32)) := by
  rw [ec_9A, em_9A]
  exact ⟨rfl, rfl, R_3 h (RRe_1 h) (RRr_1 h)⟩
theorem ec_9B (S : Sc) : f_Prc_transfer S (155 : Int32) = ((1 : Int32), (f_Reg_loadY S (S.1 1))) := rfl
theorem em_9B (T : Sc) : f_Mdl_transfer T (155 : Int32) = ((1 : Int32), (pr (f_Mdl_result T (T.1 1) (f_Mdl_is T (16 : Int32))).2 2 ((f_Mdl_result T (T.1 1) (f_Mdl_is T (16 : Int32))).1))) := rfl
theorem o_9B {S T : Sc} (h : RR S T) : KO (f_Prc_transfer S (155 : Int32)) (f_Mdl_transfer T (155 : Int32)) := by
  rw [ec_9B, em_9B]
  exact ⟨rfl, rfl, s_loadY2 h (WN_I h) (RRe_1 h)⟩
theorem ec_9C (S : Sc) : f_Prc_storeZero S (156 : Int32) = ((1 : Int32), (f_Bus_writeValue (f_Opd_place S (13 : Int32)).2 (f_Opd_place S (13 : Int32)).1 (0 : Int32) (f_Reg_wideA (f_Opd_place S (13 : Int32)).2))) := rfl
theorem em_9C (T : Sc) : f_Mdl_index T (156 : Int32) = ((1 : Int32), (f_Mdl_storeAt T (1 : Int32) (0 : Int32) (f_Mdl_is T (32 : Int32)))) := rfl
theorem o_9C {S T : Sc} (h : RR S T) : KO (f_Prc_storeZero S (156 : Int32)) (f_Mdl_index T (156 : Int32)) := by
  rw [ec_9C, em_9C]
  obtain ⟨f2, f3, f4, f5⟩ := sp_fi h 13 1 (Or.inr ⟨rfl, rfl⟩)
  rw [sa_eq]
  exact ⟨rfl, rfl, s_store f2 f3 (WN_fr h f4) rfl (fun _ => rfl)⟩
theorem ec_9D (S : Sc) : f_Prc_useAccumulator S (157 : Int32) = ((1 : Int32), (f_Bus_writeValue (f_Opd_place S (29 : Int32)).2 (f_Opd_place S (29 : Int32)).1 ((f_Opd_place S (29 : Int32)).2.1 0) (f_Reg_wideA S))) := rfl
theorem em_9D (T : Sc) : f_Mdl_arithmetic T (157 : Int32) = ((1 : Int32), (f_Mdl_store (f_Mdl_find T (29 : Int32)).2 (f_Mdl_accumulator (f_Mdl_find T (29 : Int32)).2) (f_Mdl_is T (32 : Int32)))) := by
  have e : f_Mdl_arithmetic T (157 : Int32) = if (f_Mdl_find T (29 : Int32)).1 = (0 : Int32) then (((0 : Int32), (f_Mdl_find T (29 : Int32)).2)) else (((1 : Int32), (f_Mdl_store (f_Mdl_find T (29 : Int32)).2 (f_Mdl_accumulator (f_Mdl_find T (29 : Int32)).2) (f_Mdl_is T (32 : Int32))))) := rfl
  rw [e, fd1_29, if_neg (by decide : ¬ (1 : Int32) = 0)]
theorem o_9D {S T : Sc} (h : RR S T) : KO (f_Prc_useAccumulator S (157 : Int32)) (f_Mdl_arithmetic T (157 : Int32)) := by
  rw [ec_9D, em_9D]
  obtain ⟨f1, f2, f3, f4⟩ := sp_29 h
  exact ⟨rfl, rfl, s_store f2 f3 (WN_A h) (acc_255 f2) (fun z => acc_w f2 ((is_p (RRe_8 f2) (by rw [f4]; exact WN_A h)) : f_Mdl_is _ 32 = f_Mdl_is T 32) z)⟩
theorem ec_9F (S : Sc) : f_Prc_useAccumulator S (159 : Int32) = ((1 : Int32), (f_Bus_writeValue (f_Opd_place S (31 : Int32)).2 (f_Opd_place S (31 : Int32)).1 ((f_Opd_place S (31 : Int32)).2.1 0) (f_Reg_wideA S))) := rfl
theorem em_9F (T : Sc) : f_Mdl_arithmetic T (159 : Int32) = ((1 : Int32), (f_Mdl_store (f_Mdl_find T (31 : Int32)).2 (f_Mdl_accumulator (f_Mdl_find T (31 : Int32)).2) (f_Mdl_is T (32 : Int32)))) := by
  have e : f_Mdl_arithmetic T (159 : Int32) = if (f_Mdl_find T (31 : Int32)).1 = (0 : Int32) then (((0 : Int32), (f_Mdl_find T (31 : Int32)).2)) else (((1 : Int32), (f_Mdl_store (f_Mdl_find T (31 : Int32)).2 (f_Mdl_accumulator (f_Mdl_find T (31 : Int32)).2) (f_Mdl_is T (32 : Int32))))) := rfl
  rw [e, fd1_31, if_neg (by decide : ¬ (1 : Int32) = 0)]
theorem o_9F {S T : Sc} (h : RR S T) : KO (f_Prc_useAccumulator S (159 : Int32)) (f_Mdl_arithmetic T (159 : Int32)) := by
  rw [ec_9F, em_9F]
  obtain ⟨f1, f2, f3, f4⟩ := sp_31 h
  exact ⟨rfl, rfl, s_store f2 f3 (WN_A h) (acc_255 f2) (fun z => acc_w f2 ((is_p (RRe_8 f2) (by rw [f4]; exact WN_A h)) : f_Mdl_is _ 32 = f_Mdl_is T 32) z)⟩
theorem ec_A0 (S : Sc) : f_Prc_useIndex S (160 : Int32) = ((1 : Int32), (f_Reg_loadY (f_Opd_nextValue S (f_Reg_wideIndex S)).2 (f_Opd_nextValue S (f_Reg_wideIndex S)).1)) := rfl
theorem em_A0 (T : Sc) : f_Mdl_index T (160 : Int32) = ((1 : Int32), (pr (f_Mdl_result (f_Mdl_indexOperand T (160 : Int32)).2 (f_Mdl_indexOperand T (160 : Int32)).1 (f_Mdl_is T (16 : Int32))).2 2 ((f_Mdl_result (f_Mdl_indexOperand T (160 : Int32)).2 (f_Mdl_indexOperand T (160 : Int32)).1 (f_Mdl_is T (16 : Int32))).1))) := rfl
theorem o_A0 {S T : Sc} (h : RR S T) : KO (f_Prc_useIndex S (160 : Int32)) (f_Mdl_index T (160 : Int32)) := by
  rw [ec_A0, em_A0]
  obtain ⟨l1, l2, l3⟩ := s_nv h (WN_I h)
  rw [io_160]
  exact ⟨rfl, rfl, s_loadY2 l3 (WN_fi h (fr_nv (WN_I h))) l1⟩
theorem ec_A1 (S : Sc) : f_Prc_useAccumulator S (161 : Int32) = ((1 : Int32), (f_Reg_loadA (f_Bus_readValue (f_Opd_place S (1 : Int32)).2 (f_Opd_place S (1 : Int32)).1 (f_Reg_wideA S)).2 (f_Bus_readValue (f_Opd_place S (1 : Int32)).2 (f_Opd_place S (1 : Int32)).1 (f_Reg_wideA S)).1)) := rfl
theorem em_A1 (T : Sc) : f_Mdl_arithmetic T (161 : Int32) = ((1 : Int32), (f_Mdl_setAccumulator (f_Mdl_result (f_Mdl_load (f_Mdl_find T (1 : Int32)).2 (f_Mdl_is T (32 : Int32))).2 (f_Mdl_load (f_Mdl_find T (1 : Int32)).2 (f_Mdl_is T (32 : Int32))).1 (f_Mdl_is T (32 : Int32))).2 (f_Mdl_result (f_Mdl_load (f_Mdl_find T (1 : Int32)).2 (f_Mdl_is T (32 : Int32))).2 (f_Mdl_load (f_Mdl_find T (1 : Int32)).2 (f_Mdl_is T (32 : Int32))).1 (f_Mdl_is T (32 : Int32))).1)) := by
  have e : f_Mdl_arithmetic T (161 : Int32) = if (f_Mdl_find T (1 : Int32)).1 = (0 : Int32) then (((0 : Int32), (f_Mdl_find T (1 : Int32)).2)) else (((1 : Int32), (f_Mdl_setAccumulator (f_Mdl_result (f_Mdl_load (f_Mdl_find T (1 : Int32)).2 (f_Mdl_is T (32 : Int32))).2 (f_Mdl_load (f_Mdl_find T (1 : Int32)).2 (f_Mdl_is T (32 : Int32))).1 (f_Mdl_is T (32 : Int32))).2 (f_Mdl_result (f_Mdl_load (f_Mdl_find T (1 : Int32)).2 (f_Mdl_is T (32 : Int32))).2 (f_Mdl_load (f_Mdl_find T (1 : Int32)).2 (f_Mdl_is T (32 : Int32))).1 (f_Mdl_is T (32 : Int32))).1))) := rfl
  rw [e, fd1_1, if_neg (by decide : ¬ (1 : Int32) = 0)]
theorem o_A1 {S T : Sc} (h : RR S T) : KO (f_Prc_useAccumulator S (161 : Int32)) (f_Mdl_arithmetic T (161 : Int32)) := by
  rw [ec_A1, em_A1]
  obtain ⟨f1, f2, f3, f4⟩ := sp_1 h
  obtain ⟨l1, l2, l3⟩ := s_load f2 f3 (WN_A h)
  have lf := (fr_rv (S := (f_Opd_place S 1).2) (c := (f_Opd_place S 1).1) (WN_A h)).trans f4
  have hw := WN_fr h lf
  exact ⟨rfl, rfl, s_setA2 l3 hw l1⟩
theorem ec_A2 (S : Sc) : f_Prc_useIndex S (162 : Int32) = ((1 : Int32), (f_Reg_loadX (f_Opd_nextValue S (f_Reg_wideIndex S)).2 (f_Opd_nextValue S (f_Reg_wideIndex S)).1)) := rfl
theorem em_A2 (T : Sc) : f_Mdl_index T (162 : Int32) = ((1 : Int32), (pr (f_Mdl_result (f_Mdl_indexOperand T (162 : Int32)).2 (f_Mdl_indexOperand T (162 : Int32)).1 (f_Mdl_is T (16 : Int32))).2 1 ((f_Mdl_result (f_Mdl_indexOperand T (162 : Int32)).2 (f_Mdl_indexOperand T (162 : Int32)).1 (f_Mdl_is T (16 : Int32))).1))) := rfl
theorem o_A2 {S T : Sc} (h : RR S T) : KO (f_Prc_useIndex S (162 : Int32)) (f_Mdl_index T (162 : Int32)) := by
  rw [ec_A2, em_A2]
  obtain ⟨l1, l2, l3⟩ := s_nv h (WN_I h)
  rw [io_162]
  exact ⟨rfl, rfl, s_loadX2 l3 (WN_fi h (fr_nv (WN_I h))) l1⟩
theorem ec_A3 (S : Sc) : f_Prc_useAccumulator S (163 : Int32) = ((1 : Int32), (f_Reg_loadA (f_Bus_readValue (f_Opd_place S (3 : Int32)).2 (f_Opd_place S (3 : Int32)).1 (f_Reg_wideA S)).2 (f_Bus_readValue (f_Opd_place S (3 : Int32)).2 (f_Opd_place S (3 : Int32)).1 (f_Reg_wideA S)).1)) := rfl
theorem em_A3 (T : Sc) : f_Mdl_arithmetic T (163 : Int32) = ((1 : Int32), (f_Mdl_setAccumulator (f_Mdl_result (f_Mdl_load (f_Mdl_find T (3 : Int32)).2 (f_Mdl_is T (32 : Int32))).2 (f_Mdl_load (f_Mdl_find T (3 : Int32)).2 (f_Mdl_is T (32 : Int32))).1 (f_Mdl_is T (32 : Int32))).2 (f_Mdl_result (f_Mdl_load (f_Mdl_find T (3 : Int32)).2 (f_Mdl_is T (32 : Int32))).2 (f_Mdl_load (f_Mdl_find T (3 : Int32)).2 (f_Mdl_is T (32 : Int32))).1 (f_Mdl_is T (32 : Int32))).1)) := by
  have e : f_Mdl_arithmetic T (163 : Int32) = if (f_Mdl_find T (3 : Int32)).1 = (0 : Int32) then (((0 : Int32), (f_Mdl_find T (3 : Int32)).2)) else (((1 : Int32), (f_Mdl_setAccumulator (f_Mdl_result (f_Mdl_load (f_Mdl_find T (3 : Int32)).2 (f_Mdl_is T (32 : Int32))).2 (f_Mdl_load (f_Mdl_find T (3 : Int32)).2 (f_Mdl_is T (32 : Int32))).1 (f_Mdl_is T (32 : Int32))).2 (f_Mdl_result (f_Mdl_load (f_Mdl_find T (3 : Int32)).2 (f_Mdl_is T (32 : Int32))).2 (f_Mdl_load (f_Mdl_find T (3 : Int32)).2 (f_Mdl_is T (32 : Int32))).1 (f_Mdl_is T (32 : Int32))).1))) := rfl
  rw [e, fd1_3, if_neg (by decide : ¬ (1 : Int32) = 0)]
theorem o_A3 {S T : Sc} (h : RR S T) : KO (f_Prc_useAccumulator S (163 : Int32)) (f_Mdl_arithmetic T (163 : Int32)) := by
  rw [ec_A3, em_A3]
  obtain ⟨f1, f2, f3, f4⟩ := sp_3 h
  obtain ⟨l1, l2, l3⟩ := s_load f2 f3 (WN_A h)
  have lf := (fr_rv (S := (f_Opd_place S 3).2) (c := (f_Opd_place S 3).1) (WN_A h)).trans f4
  have hw := WN_fr h lf
  exact ⟨rfl, rfl, s_setA2 l3 hw l1⟩
theorem ec_A4 (S : Sc) : f_Prc_useIndex S (164 : Int32) = ((1 : Int32), (f_Reg_loadY (f_Bus_readValue (f_Opd_place S (5 : Int32)).2 (f_Opd_place S (5 : Int32)).1 (f_Reg_wideIndex S)).2 (f_Bus_readValue (f_Opd_place S (5 : Int32)).2 (f_Opd_place S (5 : Int32)).1 (f_Reg_wideIndex S)).1)) := rfl
theorem em_A4 (T : Sc) : f_Mdl_index T (164 : Int32) = ((1 : Int32), (pr (f_Mdl_result (f_Mdl_indexOperand T (164 : Int32)).2 (f_Mdl_indexOperand T (164 : Int32)).1 (f_Mdl_is T (16 : Int32))).2 2 ((f_Mdl_result (f_Mdl_indexOperand T (164 : Int32)).2 (f_Mdl_indexOperand T (164 : Int32)).1 (f_Mdl_is T (16 : Int32))).1))) := rfl
theorem o_A4 {S T : Sc} (h : RR S T) : KO (f_Prc_useIndex S (164 : Int32)) (f_Mdl_index T (164 : Int32)) := by
  rw [ec_A4, em_A4]
  obtain ⟨f2, f3, f4, f5⟩ := sp_fi h 5 0 (Or.inl ⟨rfl, rfl⟩)
  obtain ⟨l1, l2, l3⟩ := s_load f2 f3 (WN_I h)
  rw [io_164, is_e f5]
  exact ⟨rfl, rfl, s_loadY2 l3 (WN_fi h ((fr_rv (WN_I h)).trans f4)) l1⟩
theorem ec_A5 (S : Sc) : f_Prc_useAccumulator S (165 : Int32) = ((1 : Int32), (f_Reg_loadA (f_Bus_readValue (f_Opd_place S (5 : Int32)).2 (f_Opd_place S (5 : Int32)).1 (f_Reg_wideA S)).2 (f_Bus_readValue (f_Opd_place S (5 : Int32)).2 (f_Opd_place S (5 : Int32)).1 (f_Reg_wideA S)).1)) := rfl
theorem em_A5 (T : Sc) : f_Mdl_arithmetic T (165 : Int32) = ((1 : Int32), (f_Mdl_setAccumulator (f_Mdl_result (f_Mdl_load (f_Mdl_find T (5 : Int32)).2 (f_Mdl_is T (32 : Int32))).2 (f_Mdl_load (f_Mdl_find T (5 : Int32)).2 (f_Mdl_is T (32 : Int32))).1 (f_Mdl_is T (32 : Int32))).2 (f_Mdl_result (f_Mdl_load (f_Mdl_find T (5 : Int32)).2 (f_Mdl_is T (32 : Int32))).2 (f_Mdl_load (f_Mdl_find T (5 : Int32)).2 (f_Mdl_is T (32 : Int32))).1 (f_Mdl_is T (32 : Int32))).1)) := by
  have e : f_Mdl_arithmetic T (165 : Int32) = if (f_Mdl_find T (5 : Int32)).1 = (0 : Int32) then (((0 : Int32), (f_Mdl_find T (5 : Int32)).2)) else (((1 : Int32), (f_Mdl_setAccumulator (f_Mdl_result (f_Mdl_load (f_Mdl_find T (5 : Int32)).2 (f_Mdl_is T (32 : Int32))).2 (f_Mdl_load (f_Mdl_find T (5 : Int32)).2 (f_Mdl_is T (32 : Int32))).1 (f_Mdl_is T (32 : Int32))).2 (f_Mdl_result (f_Mdl_load (f_Mdl_find T (5 : Int32)).2 (f_Mdl_is T (32 : Int32))).2 (f_Mdl_load (f_Mdl_find T (5 : Int32)).2 (f_Mdl_is T (32 : Int32))).1 (f_Mdl_is T (32 : Int32))).1))) := rfl
  rw [e, fd1_5, if_neg (by decide : ¬ (1 : Int32) = 0)]
theorem o_A5 {S T : Sc} (h : RR S T) : KO (f_Prc_useAccumulator S (165 : Int32)) (f_Mdl_arithmetic T (165 : Int32)) := by
  rw [ec_A5, em_A5]
  obtain ⟨f1, f2, f3, f4⟩ := sp_5 h
  obtain ⟨l1, l2, l3⟩ := s_load f2 f3 (WN_A h)
  have lf := (fr_rv (S := (f_Opd_place S 5).2) (c := (f_Opd_place S 5).1) (WN_A h)).trans f4
  have hw := WN_fr h lf
  exact ⟨rfl, rfl, s_setA2 l3 hw l1⟩
theorem ec_A6 (S : Sc) : f_Prc_useIndex S (166 : Int32) = ((1 : Int32), (f_Reg_loadX (f_Bus_readValue (f_Opd_place S (5 : Int32)).2 (f_Opd_place S (5 : Int32)).1 (f_Reg_wideIndex S)).2 (f_Bus_readValue (f_Opd_place S (5 : Int32)).2 (f_Opd_place S (5 : Int32)).1 (f_Reg_wideIndex S)).1)) := rfl
theorem em_A6 (T : Sc) : f_Mdl_index T (166 : Int32) = ((1 : Int32), (pr (f_Mdl_result (f_Mdl_indexOperand T (166 : Int32)).2 (f_Mdl_indexOperand T (166 : Int32)).1 (f_Mdl_is T (16 : Int32))).2 1 ((f_Mdl_result (f_Mdl_indexOperand T (166 : Int32)).2 (f_Mdl_indexOperand T (166 : Int32)).1 (f_Mdl_is T (16 : Int32))).1))) := rfl
theorem o_A6 {S T : Sc} (h : RR S T) : KO (f_Prc_useIndex S (166 : Int32)) (f_Mdl_index T (166 : Int32)) := by
  rw [ec_A6, em_A6]
  obtain ⟨f2, f3, f4, f5⟩ := sp_fi h 5 0 (Or.inl ⟨rfl, rfl⟩)
  obtain ⟨l1, l2, l3⟩ := s_load f2 f3 (WN_I h)
  rw [io_166, is_e f5]
  exact ⟨rfl, rfl, s_loadX2 l3 (WN_fi h ((fr_rv (WN_I h)).trans f4)) l1⟩
theorem ec_A7 (S : Sc) : f_Prc_useAccumulator S (167 : Int32) = ((1 : Int32), (f_Reg_loadA (f_Bus_readValue (f_Opd_place S (7 : Int32)).2 (f_Opd_place S (7 : Int32)).1 (f_Reg_wideA S)).2 (f_Bus_readValue (f_Opd_place S (7 : Int32)).2 (f_Opd_place S (7 : Int32)).1 (f_Reg_wideA S)).1)) := rfl
theorem em_A7 (T : Sc) : f_Mdl_arithmetic T (167 : Int32) = ((1 : Int32), (f_Mdl_setAccumulator (f_Mdl_result (f_Mdl_load (f_Mdl_find T (7 : Int32)).2 (f_Mdl_is T (32 : Int32))).2 (f_Mdl_load (f_Mdl_find T (7 : Int32)).2 (f_Mdl_is T (32 : Int32))).1 (f_Mdl_is T (32 : Int32))).2 (f_Mdl_result (f_Mdl_load (f_Mdl_find T (7 : Int32)).2 (f_Mdl_is T (32 : Int32))).2 (f_Mdl_load (f_Mdl_find T (7 : Int32)).2 (f_Mdl_is T (32 : Int32))).1 (f_Mdl_is T (32 : Int32))).1)) := by
  have e : f_Mdl_arithmetic T (167 : Int32) = if (f_Mdl_find T (7 : Int32)).1 = (0 : Int32) then (((0 : Int32), (f_Mdl_find T (7 : Int32)).2)) else (((1 : Int32), (f_Mdl_setAccumulator (f_Mdl_result (f_Mdl_load (f_Mdl_find T (7 : Int32)).2 (f_Mdl_is T (32 : Int32))).2 (f_Mdl_load (f_Mdl_find T (7 : Int32)).2 (f_Mdl_is T (32 : Int32))).1 (f_Mdl_is T (32 : Int32))).2 (f_Mdl_result (f_Mdl_load (f_Mdl_find T (7 : Int32)).2 (f_Mdl_is T (32 : Int32))).2 (f_Mdl_load (f_Mdl_find T (7 : Int32)).2 (f_Mdl_is T (32 : Int32))).1 (f_Mdl_is T (32 : Int32))).1))) := rfl
  rw [e, fd1_7, if_neg (by decide : ¬ (1 : Int32) = 0)]
theorem o_A7 {S T : Sc} (h : RR S T) : KO (f_Prc_useAccumulator S (167 : Int32)) (f_Mdl_arithmetic T (167 : Int32)) := by
  rw [ec_A7, em_A7]
  obtain ⟨f1, f2, f3, f4⟩ := sp_7 h
  obtain ⟨l1, l2, l3⟩ := s_load f2 f3 (WN_A h)
  have lf := (fr_rv (S := (f_Opd_place S 7).2) (c := (f_Opd_place S 7).1) (WN_A h)).trans f4
  have hw := WN_fr h lf
  exact ⟨rfl, rfl, s_setA2 l3 hw l1⟩
theorem ec_A8 (S : Sc) : f_Prc_transfer S (168 : Int32) = ((1 : Int32), (f_Reg_loadY S (S.1 0))) := rfl
theorem em_A8 (T : Sc) : f_Mdl_transfer T (168 : Int32) = ((1 : Int32), (pr (f_Mdl_result T (T.1 0) (f_Mdl_is T (16 : Int32))).2 2 ((f_Mdl_result T (T.1 0) (f_Mdl_is T (16 : Int32))).1))) := rfl
theorem o_A8 {S T : Sc} (h : RR S T) : KO (f_Prc_transfer S (168 : Int32)) (f_Mdl_transfer T (168 : Int32)) := by
  rw [ec_A8, em_A8]
  exact ⟨rfl, rfl, s_loadY2 h (WN_I h) (RRe_0 h)⟩
theorem ec_A9 (S : Sc) : f_Prc_useAccumulator S (169 : Int32) = ((1 : Int32), (f_Reg_loadA (f_Opd_nextValue S (f_Reg_wideA S)).2 (f_Opd_nextValue S (f_Reg_wideA S)).1)) := rfl
theorem em_A9 (T : Sc) : f_Mdl_arithmetic T (169 : Int32) = ((1 : Int32), (f_Mdl_setAccumulator (f_Mdl_result (f_Mdl_immediate T (f_Mdl_is T (32 : Int32))).2 (f_Mdl_immediate T (f_Mdl_is T (32 : Int32))).1 (f_Mdl_is T (32 : Int32))).2 (f_Mdl_result (f_Mdl_immediate T (f_Mdl_is T (32 : Int32))).2 (f_Mdl_immediate T (f_Mdl_is T (32 : Int32))).1 (f_Mdl_is T (32 : Int32))).1)) := rfl
theorem o_A9 {S T : Sc} (h : RR S T) : KO (f_Prc_useAccumulator S (169 : Int32)) (f_Mdl_arithmetic T (169 : Int32)) := by
  rw [ec_A9, em_A9]
  obtain ⟨l1, l2, l3⟩ := s_nv h (WN_A h)
  have lf := fr_nv (S := S) (WN_A h)
  have hw := WN_fr h lf
  exact ⟨rfl, rfl, s_setA2 l3 hw l1⟩
theorem ec_AA (S : Sc) : f_Prc_transfer S (170 : Int32) = ((1 : Int32), (f_Reg_loadX S (S.1 0))) := rfl
theorem em_AA (T : Sc) : f_Mdl_transfer T (170 : Int32) = ((1 : Int32), (pr (f_Mdl_result T (T.1 0) (f_Mdl_is T (16 : Int32))).2 1 ((f_Mdl_result T (T.1 0) (f_Mdl_is T (16 : Int32))).1))) := rfl
theorem o_AA {S T : Sc} (h : RR S T) : KO (f_Prc_transfer S (170 : Int32)) (f_Mdl_transfer T (170 : Int32)) := by
  rw [ec_AA, em_AA]
  exact ⟨rfl, rfl, s_loadX2 h (WN_I h) (RRe_0 h)⟩
theorem ec_AB (S : Sc) : f_Prc_pull S (171 : Int32) = ((1 : Int32), (f_Reg_loadDataBank (f_Stk_pullByte S).2 (f_Stk_pullByte S).1)) := rfl
theorem em_AB (T : Sc) : f_Mdl_stack T (171 : Int32) = ((1 : Int32), (pr (f_Mdl_pullOf T (1 : Int32)).2 5 ((f_Mdl_pullOf T (1 : Int32)).1))) := rfl
theorem o_AB {S T : Sc} (h : RR S T) : KO (f_Prc_pull S (171 : Int32)) (f_Mdl_stack T (171 : Int32)) := by
  rw [ec_AB, em_AB]
  obtain ⟨a1, a2, a3⟩ := s_pull h
  have k := s_loadB a3 a2
  rw [a1] at k
  rw [pf1, a1]
  exact ⟨rfl, rfl, k⟩
theorem ec_AC (S : Sc) : f_Prc_useIndex S (172 : Int32) = ((1 : Int32), (f_Reg_loadY (f_Bus_readValue (f_Opd_place S (13 : Int32)).2 (f_Opd_place S (13 : Int32)).1 (f_Reg_wideIndex S)).2 (f_Bus_readValue (f_Opd_place S (13 : Int32)).2 (f_Opd_place S (13 : Int32)).1 (f_Reg_wideIndex S)).1)) := rfl
theorem em_AC (T : Sc) : f_Mdl_index T (172 : Int32) = ((1 : Int32), (pr (f_Mdl_result (f_Mdl_indexOperand T (172 : Int32)).2 (f_Mdl_indexOperand T (172 : Int32)).1 (f_Mdl_is T (16 : Int32))).2 2 ((f_Mdl_result (f_Mdl_indexOperand T (172 : Int32)).2 (f_Mdl_indexOperand T (172 : Int32)).1 (f_Mdl_is T (16 : Int32))).1))) := rfl
theorem o_AC {S T : Sc} (h : RR S T) : KO (f_Prc_useIndex S (172 : Int32)) (f_Mdl_index T (172 : Int32)) := by
  rw [ec_AC, em_AC]
  obtain ⟨f2, f3, f4, f5⟩ := sp_fi h 13 1 (Or.inr ⟨rfl, rfl⟩)
  obtain ⟨l1, l2, l3⟩ := s_load f2 f3 (WN_I h)
  rw [io_172, is_e f5]
  exact ⟨rfl, rfl, s_loadY2 l3 (WN_fi h ((fr_rv (WN_I h)).trans f4)) l1⟩
theorem ec_AD (S : Sc) : f_Prc_useAccumulator S (173 : Int32) = ((1 : Int32), (f_Reg_loadA (f_Bus_readValue (f_Opd_place S (13 : Int32)).2 (f_Opd_place S (13 : Int32)).1 (f_Reg_wideA S)).2 (f_Bus_readValue (f_Opd_place S (13 : Int32)).2 (f_Opd_place S (13 : Int32)).1 (f_Reg_wideA S)).1)) := rfl
theorem em_AD (T : Sc) : f_Mdl_arithmetic T (173 : Int32) = ((1 : Int32), (f_Mdl_setAccumulator (f_Mdl_result (f_Mdl_load (f_Mdl_find T (13 : Int32)).2 (f_Mdl_is T (32 : Int32))).2 (f_Mdl_load (f_Mdl_find T (13 : Int32)).2 (f_Mdl_is T (32 : Int32))).1 (f_Mdl_is T (32 : Int32))).2 (f_Mdl_result (f_Mdl_load (f_Mdl_find T (13 : Int32)).2 (f_Mdl_is T (32 : Int32))).2 (f_Mdl_load (f_Mdl_find T (13 : Int32)).2 (f_Mdl_is T (32 : Int32))).1 (f_Mdl_is T (32 : Int32))).1)) := by
  have e : f_Mdl_arithmetic T (173 : Int32) = if (f_Mdl_find T (13 : Int32)).1 = (0 : Int32) then (((0 : Int32), (f_Mdl_find T (13 : Int32)).2)) else (((1 : Int32), (f_Mdl_setAccumulator (f_Mdl_result (f_Mdl_load (f_Mdl_find T (13 : Int32)).2 (f_Mdl_is T (32 : Int32))).2 (f_Mdl_load (f_Mdl_find T (13 : Int32)).2 (f_Mdl_is T (32 : Int32))).1 (f_Mdl_is T (32 : Int32))).2 (f_Mdl_result (f_Mdl_load (f_Mdl_find T (13 : Int32)).2 (f_Mdl_is T (32 : Int32))).2 (f_Mdl_load (f_Mdl_find T (13 : Int32)).2 (f_Mdl_is T (32 : Int32))).1 (f_Mdl_is T (32 : Int32))).1))) := rfl
  rw [e, fd1_13, if_neg (by decide : ¬ (1 : Int32) = 0)]
theorem o_AD {S T : Sc} (h : RR S T) : KO (f_Prc_useAccumulator S (173 : Int32)) (f_Mdl_arithmetic T (173 : Int32)) := by
  rw [ec_AD, em_AD]
  obtain ⟨f1, f2, f3, f4⟩ := sp_13 h
  obtain ⟨l1, l2, l3⟩ := s_load f2 f3 (WN_A h)
  have lf := (fr_rv (S := (f_Opd_place S 13).2) (c := (f_Opd_place S 13).1) (WN_A h)).trans f4
  have hw := WN_fr h lf
  exact ⟨rfl, rfl, s_setA2 l3 hw l1⟩
theorem ec_AE (S : Sc) : f_Prc_useIndex S (174 : Int32) = ((1 : Int32), (f_Reg_loadX (f_Bus_readValue (f_Opd_place S (13 : Int32)).2 (f_Opd_place S (13 : Int32)).1 (f_Reg_wideIndex S)).2 (f_Bus_readValue (f_Opd_place S (13 : Int32)).2 (f_Opd_place S (13 : Int32)).1 (f_Reg_wideIndex S)).1)) := rfl
theorem em_AE (T : Sc) : f_Mdl_index T (174 : Int32) = ((1 : Int32), (pr (f_Mdl_result (f_Mdl_indexOperand T (174 : Int32)).2 (f_Mdl_indexOperand T (174 : Int32)).1 (f_Mdl_is T (16 : Int32))).2 1 ((f_Mdl_result (f_Mdl_indexOperand T (174 : Int32)).2 (f_Mdl_indexOperand T (174 : Int32)).1 (f_Mdl_is T (16 : Int32))).1))) := rfl
theorem o_AE {S T : Sc} (h : RR S T) : KO (f_Prc_useIndex S (174 : Int32)) (f_Mdl_index T (174 : Int32)) := by
  rw [ec_AE, em_AE]
  obtain ⟨f2, f3, f4, f5⟩ := sp_fi h 13 1 (Or.inr ⟨rfl, rfl⟩)
  obtain ⟨l1, l2, l3⟩ := s_load f2 f3 (WN_I h)
  rw [io_174, is_e f5]
  exact ⟨rfl, rfl, s_loadX2 l3 (WN_fi h ((fr_rv (WN_I h)).trans f4)) l1⟩
theorem ec_AF (S : Sc) : f_Prc_useAccumulator S (175 : Int32) = ((1 : Int32), (f_Reg_loadA (f_Bus_readValue (f_Opd_place S (15 : Int32)).2 (f_Opd_place S (15 : Int32)).1 (f_Reg_wideA S)).2 (f_Bus_readValue (f_Opd_place S (15 : Int32)).2 (f_Opd_place S (15 : Int32)).1 (f_Reg_wideA S)).1)) := rfl
theorem em_AF (T : Sc) : f_Mdl_arithmetic T (175 : Int32) = ((1 : Int32), (f_Mdl_setAccumulator (f_Mdl_result (f_Mdl_load (f_Mdl_find T (15 : Int32)).2 (f_Mdl_is T (32 : Int32))).2 (f_Mdl_load (f_Mdl_find T (15 : Int32)).2 (f_Mdl_is T (32 : Int32))).1 (f_Mdl_is T (32 : Int32))).2 (f_Mdl_result (f_Mdl_load (f_Mdl_find T (15 : Int32)).2 (f_Mdl_is T (32 : Int32))).2 (f_Mdl_load (f_Mdl_find T (15 : Int32)).2 (f_Mdl_is T (32 : Int32))).1 (f_Mdl_is T (32 : Int32))).1)) := by
  have e : f_Mdl_arithmetic T (175 : Int32) = if (f_Mdl_find T (15 : Int32)).1 = (0 : Int32) then (((0 : Int32), (f_Mdl_find T (15 : Int32)).2)) else (((1 : Int32), (f_Mdl_setAccumulator (f_Mdl_result (f_Mdl_load (f_Mdl_find T (15 : Int32)).2 (f_Mdl_is T (32 : Int32))).2 (f_Mdl_load (f_Mdl_find T (15 : Int32)).2 (f_Mdl_is T (32 : Int32))).1 (f_Mdl_is T (32 : Int32))).2 (f_Mdl_result (f_Mdl_load (f_Mdl_find T (15 : Int32)).2 (f_Mdl_is T (32 : Int32))).2 (f_Mdl_load (f_Mdl_find T (15 : Int32)).2 (f_Mdl_is T (32 : Int32))).1 (f_Mdl_is T (32 : Int32))).1))) := rfl
  rw [e, fd1_15, if_neg (by decide : ¬ (1 : Int32) = 0)]
theorem o_AF {S T : Sc} (h : RR S T) : KO (f_Prc_useAccumulator S (175 : Int32)) (f_Mdl_arithmetic T (175 : Int32)) := by
  rw [ec_AF, em_AF]
  obtain ⟨f1, f2, f3, f4⟩ := sp_15 h
  obtain ⟨l1, l2, l3⟩ := s_load f2 f3 (WN_A h)
  have lf := (fr_rv (S := (f_Opd_place S 15).2) (c := (f_Opd_place S 15).1) (WN_A h)).trans f4
  have hw := WN_fr h lf
  exact ⟨rfl, rfl, s_setA2 l3 hw l1⟩
theorem ec_B0 (S : Sc) : f_Prc_branch S (176 : Int32) = if (f_Reg_has (f_Opd_nextByte S).2 (bf ((2 : Int32)).toNatClampNeg)) = (1 : Int32) then (((1 : Int32), (f_Reg_jumpTo (f_Opd_nextByte S).2 (((f_Opd_nextByte S).2.1 7) + (((f_Opd_nextByte S).1).toInt8.toInt32))))) else (((1 : Int32), (f_Opd_nextByte S).2)) := rfl
theorem em_B0 (T : Sc) : f_Mdl_jump T (176 : Int32) = ((1 : Int32), (f_Mdl_branch T (f_Mdl_is T (1 : Int32)))) := rfl
theorem o_B0 {S T : Sc} (h : RR S T) : KO (f_Prc_branch S (176 : Int32)) (f_Mdl_jump T (176 : Int32)) := by
  rw [ec_B0, em_B0]
  have e : f_Reg_has (f_Opd_nextByte S).2 (1 : Int32) = f_Mdl_is T (1 : Int32) := has_n h (1 : Int32)
  have eb : bf (2 : Int32).toNatClampNeg = (1 : Int32) := rfl
  rw [eb, e]
  have b := s_br (x := f_Mdl_is T 1) h
  by_cases z : f_Mdl_is T (1 : Int32) = (1 : Int32)
  · rw [if_pos z]; exact ⟨rfl, rfl, b.1 (by rw [z]; decide)⟩
  · rw [if_neg z]; exact ⟨rfl, rfl, b.2 (is_01 z)⟩
theorem ec_B1 (S : Sc) : f_Prc_useAccumulator S (177 : Int32) = ((1 : Int32), (f_Reg_loadA (f_Bus_readValue (f_Opd_place S (17 : Int32)).2 (f_Opd_place S (17 : Int32)).1 (f_Reg_wideA S)).2 (f_Bus_readValue (f_Opd_place S (17 : Int32)).2 (f_Opd_place S (17 : Int32)).1 (f_Reg_wideA S)).1)) := rfl
theorem em_B1 (T : Sc) : f_Mdl_arithmetic T (177 : Int32) = ((1 : Int32), (f_Mdl_setAccumulator (f_Mdl_result (f_Mdl_load (f_Mdl_find T (17 : Int32)).2 (f_Mdl_is T (32 : Int32))).2 (f_Mdl_load (f_Mdl_find T (17 : Int32)).2 (f_Mdl_is T (32 : Int32))).1 (f_Mdl_is T (32 : Int32))).2 (f_Mdl_result (f_Mdl_load (f_Mdl_find T (17 : Int32)).2 (f_Mdl_is T (32 : Int32))).2 (f_Mdl_load (f_Mdl_find T (17 : Int32)).2 (f_Mdl_is T (32 : Int32))).1 (f_Mdl_is T (32 : Int32))).1)) := by
  have e : f_Mdl_arithmetic T (177 : Int32) = if (f_Mdl_find T (17 : Int32)).1 = (0 : Int32) then (((0 : Int32), (f_Mdl_find T (17 : Int32)).2)) else (((1 : Int32), (f_Mdl_setAccumulator (f_Mdl_result (f_Mdl_load (f_Mdl_find T (17 : Int32)).2 (f_Mdl_is T (32 : Int32))).2 (f_Mdl_load (f_Mdl_find T (17 : Int32)).2 (f_Mdl_is T (32 : Int32))).1 (f_Mdl_is T (32 : Int32))).2 (f_Mdl_result (f_Mdl_load (f_Mdl_find T (17 : Int32)).2 (f_Mdl_is T (32 : Int32))).2 (f_Mdl_load (f_Mdl_find T (17 : Int32)).2 (f_Mdl_is T (32 : Int32))).1 (f_Mdl_is T (32 : Int32))).1))) := rfl
  rw [e, fd1_17, if_neg (by decide : ¬ (1 : Int32) = 0)]
theorem o_B1 {S T : Sc} (h : RR S T) : KO (f_Prc_useAccumulator S (177 : Int32)) (f_Mdl_arithmetic T (177 : Int32)) := by
  rw [ec_B1, em_B1]
  obtain ⟨f1, f2, f3, f4⟩ := sp_17 h
  obtain ⟨l1, l2, l3⟩ := s_load f2 f3 (WN_A h)
  have lf := (fr_rv (S := (f_Opd_place S 17).2) (c := (f_Opd_place S 17).1) (WN_A h)).trans f4
  have hw := WN_fr h lf
  exact ⟨rfl, rfl, s_setA2 l3 hw l1⟩
theorem ec_B2 (S : Sc) : f_Prc_useAccumulator S (178 : Int32) = ((1 : Int32), (f_Reg_loadA (f_Bus_readValue (f_Opd_place S (18 : Int32)).2 (f_Opd_place S (18 : Int32)).1 (f_Reg_wideA S)).2 (f_Bus_readValue (f_Opd_place S (18 : Int32)).2 (f_Opd_place S (18 : Int32)).1 (f_Reg_wideA S)).1)) := rfl
theorem em_B2 (T : Sc) : f_Mdl_arithmetic T (178 : Int32) = ((1 : Int32), (f_Mdl_setAccumulator (f_Mdl_result (f_Mdl_load (f_Mdl_find T (18 : Int32)).2 (f_Mdl_is T (32 : Int32))).2 (f_Mdl_load (f_Mdl_find T (18 : Int32)).2 (f_Mdl_is T (32 : Int32))).1 (f_Mdl_is T (32 : Int32))).2 (f_Mdl_result (f_Mdl_load (f_Mdl_find T (18 : Int32)).2 (f_Mdl_is T (32 : Int32))).2 (f_Mdl_load (f_Mdl_find T (18 : Int32)).2 (f_Mdl_is T (32 : Int32))).1 (f_Mdl_is T (32 : Int32))).1)) := by
  have e : f_Mdl_arithmetic T (178 : Int32) = if (f_Mdl_find T (18 : Int32)).1 = (0 : Int32) then (((0 : Int32), (f_Mdl_find T (18 : Int32)).2)) else (((1 : Int32), (f_Mdl_setAccumulator (f_Mdl_result (f_Mdl_load (f_Mdl_find T (18 : Int32)).2 (f_Mdl_is T (32 : Int32))).2 (f_Mdl_load (f_Mdl_find T (18 : Int32)).2 (f_Mdl_is T (32 : Int32))).1 (f_Mdl_is T (32 : Int32))).2 (f_Mdl_result (f_Mdl_load (f_Mdl_find T (18 : Int32)).2 (f_Mdl_is T (32 : Int32))).2 (f_Mdl_load (f_Mdl_find T (18 : Int32)).2 (f_Mdl_is T (32 : Int32))).1 (f_Mdl_is T (32 : Int32))).1))) := rfl
  rw [e, fd1_18, if_neg (by decide : ¬ (1 : Int32) = 0)]
theorem o_B2 {S T : Sc} (h : RR S T) : KO (f_Prc_useAccumulator S (178 : Int32)) (f_Mdl_arithmetic T (178 : Int32)) := by
  rw [ec_B2, em_B2]
  obtain ⟨f1, f2, f3, f4⟩ := sp_18 h
  obtain ⟨l1, l2, l3⟩ := s_load f2 f3 (WN_A h)
  have lf := (fr_rv (S := (f_Opd_place S 18).2) (c := (f_Opd_place S 18).1) (WN_A h)).trans f4
  have hw := WN_fr h lf
  exact ⟨rfl, rfl, s_setA2 l3 hw l1⟩
theorem ec_B3 (S : Sc) : f_Prc_useAccumulator S (179 : Int32) = ((1 : Int32), (f_Reg_loadA (f_Bus_readValue (f_Opd_place S (19 : Int32)).2 (f_Opd_place S (19 : Int32)).1 (f_Reg_wideA S)).2 (f_Bus_readValue (f_Opd_place S (19 : Int32)).2 (f_Opd_place S (19 : Int32)).1 (f_Reg_wideA S)).1)) := rfl
theorem em_B3 (T : Sc) : f_Mdl_arithmetic T (179 : Int32) = ((1 : Int32), (f_Mdl_setAccumulator (f_Mdl_result (f_Mdl_load (f_Mdl_find T (19 : Int32)).2 (f_Mdl_is T (32 : Int32))).2 (f_Mdl_load (f_Mdl_find T (19 : Int32)).2 (f_Mdl_is T (32 : Int32))).1 (f_Mdl_is T (32 : Int32))).2 (f_Mdl_result (f_Mdl_load (f_Mdl_find T (19 : Int32)).2 (f_Mdl_is T (32 : Int32))).2 (f_Mdl_load (f_Mdl_find T (19 : Int32)).2 (f_Mdl_is T (32 : Int32))).1 (f_Mdl_is T (32 : Int32))).1)) := by
  have e : f_Mdl_arithmetic T (179 : Int32) = if (f_Mdl_find T (19 : Int32)).1 = (0 : Int32) then (((0 : Int32), (f_Mdl_find T (19 : Int32)).2)) else (((1 : Int32), (f_Mdl_setAccumulator (f_Mdl_result (f_Mdl_load (f_Mdl_find T (19 : Int32)).2 (f_Mdl_is T (32 : Int32))).2 (f_Mdl_load (f_Mdl_find T (19 : Int32)).2 (f_Mdl_is T (32 : Int32))).1 (f_Mdl_is T (32 : Int32))).2 (f_Mdl_result (f_Mdl_load (f_Mdl_find T (19 : Int32)).2 (f_Mdl_is T (32 : Int32))).2 (f_Mdl_load (f_Mdl_find T (19 : Int32)).2 (f_Mdl_is T (32 : Int32))).1 (f_Mdl_is T (32 : Int32))).1))) := rfl
  rw [e, fd1_19, if_neg (by decide : ¬ (1 : Int32) = 0)]
theorem o_B3 {S T : Sc} (h : RR S T) : KO (f_Prc_useAccumulator S (179 : Int32)) (f_Mdl_arithmetic T (179 : Int32)) := by
  rw [ec_B3, em_B3]
  obtain ⟨f1, f2, f3, f4⟩ := sp_19 h
  obtain ⟨l1, l2, l3⟩ := s_load f2 f3 (WN_A h)
  have lf := (fr_rv (S := (f_Opd_place S 19).2) (c := (f_Opd_place S 19).1) (WN_A h)).trans f4
  have hw := WN_fr h lf
  exact ⟨rfl, rfl, s_setA2 l3 hw l1⟩
theorem ec_B5 (S : Sc) : f_Prc_useAccumulator S (181 : Int32) = ((1 : Int32), (f_Reg_loadA (f_Bus_readValue (f_Opd_place S (21 : Int32)).2 (f_Opd_place S (21 : Int32)).1 (f_Reg_wideA S)).2 (f_Bus_readValue (f_Opd_place S (21 : Int32)).2 (f_Opd_place S (21 : Int32)).1 (f_Reg_wideA S)).1)) := rfl
theorem em_B5 (T : Sc) : f_Mdl_arithmetic T (181 : Int32) = ((1 : Int32), (f_Mdl_setAccumulator (f_Mdl_result (f_Mdl_load (f_Mdl_find T (21 : Int32)).2 (f_Mdl_is T (32 : Int32))).2 (f_Mdl_load (f_Mdl_find T (21 : Int32)).2 (f_Mdl_is T (32 : Int32))).1 (f_Mdl_is T (32 : Int32))).2 (f_Mdl_result (f_Mdl_load (f_Mdl_find T (21 : Int32)).2 (f_Mdl_is T (32 : Int32))).2 (f_Mdl_load (f_Mdl_find T (21 : Int32)).2 (f_Mdl_is T (32 : Int32))).1 (f_Mdl_is T (32 : Int32))).1)) := by
  have e : f_Mdl_arithmetic T (181 : Int32) = if (f_Mdl_find T (21 : Int32)).1 = (0 : Int32) then (((0 : Int32), (f_Mdl_find T (21 : Int32)).2)) else (((1 : Int32), (f_Mdl_setAccumulator (f_Mdl_result (f_Mdl_load (f_Mdl_find T (21 : Int32)).2 (f_Mdl_is T (32 : Int32))).2 (f_Mdl_load (f_Mdl_find T (21 : Int32)).2 (f_Mdl_is T (32 : Int32))).1 (f_Mdl_is T (32 : Int32))).2 (f_Mdl_result (f_Mdl_load (f_Mdl_find T (21 : Int32)).2 (f_Mdl_is T (32 : Int32))).2 (f_Mdl_load (f_Mdl_find T (21 : Int32)).2 (f_Mdl_is T (32 : Int32))).1 (f_Mdl_is T (32 : Int32))).1))) := rfl
  rw [e, fd1_21, if_neg (by decide : ¬ (1 : Int32) = 0)]
theorem o_B5 {S T : Sc} (h : RR S T) : KO (f_Prc_useAccumulator S (181 : Int32)) (f_Mdl_arithmetic T (181 : Int32)) := by
  rw [ec_B5, em_B5]
  obtain ⟨f1, f2, f3, f4⟩ := sp_21 h
  obtain ⟨l1, l2, l3⟩ := s_load f2 f3 (WN_A h)
  have lf := (fr_rv (S := (f_Opd_place S 21).2) (c := (f_Opd_place S 21).1) (WN_A h)).trans f4
  have hw := WN_fr h lf
  exact ⟨rfl, rfl, s_setA2 l3 hw l1⟩
theorem ec_B7 (S : Sc) : f_Prc_useAccumulator S (183 : Int32) = ((1 : Int32), (f_Reg_loadA (f_Bus_readValue (f_Opd_place S (23 : Int32)).2 (f_Opd_place S (23 : Int32)).1 (f_Reg_wideA S)).2 (f_Bus_readValue (f_Opd_place S (23 : Int32)).2 (f_Opd_place S (23 : Int32)).1 (f_Reg_wideA S)).1)) := rfl
theorem em_B7 (T : Sc) : f_Mdl_arithmetic T (183 : Int32) = ((1 : Int32), (f_Mdl_setAccumulator (f_Mdl_result (f_Mdl_load (f_Mdl_find T (23 : Int32)).2 (f_Mdl_is T (32 : Int32))).2 (f_Mdl_load (f_Mdl_find T (23 : Int32)).2 (f_Mdl_is T (32 : Int32))).1 (f_Mdl_is T (32 : Int32))).2 (f_Mdl_result (f_Mdl_load (f_Mdl_find T (23 : Int32)).2 (f_Mdl_is T (32 : Int32))).2 (f_Mdl_load (f_Mdl_find T (23 : Int32)).2 (f_Mdl_is T (32 : Int32))).1 (f_Mdl_is T (32 : Int32))).1)) := by
  have e : f_Mdl_arithmetic T (183 : Int32) = if (f_Mdl_find T (23 : Int32)).1 = (0 : Int32) then (((0 : Int32), (f_Mdl_find T (23 : Int32)).2)) else (((1 : Int32), (f_Mdl_setAccumulator (f_Mdl_result (f_Mdl_load (f_Mdl_find T (23 : Int32)).2 (f_Mdl_is T (32 : Int32))).2 (f_Mdl_load (f_Mdl_find T (23 : Int32)).2 (f_Mdl_is T (32 : Int32))).1 (f_Mdl_is T (32 : Int32))).2 (f_Mdl_result (f_Mdl_load (f_Mdl_find T (23 : Int32)).2 (f_Mdl_is T (32 : Int32))).2 (f_Mdl_load (f_Mdl_find T (23 : Int32)).2 (f_Mdl_is T (32 : Int32))).1 (f_Mdl_is T (32 : Int32))).1))) := rfl
  rw [e, fd1_23, if_neg (by decide : ¬ (1 : Int32) = 0)]
theorem o_B7 {S T : Sc} (h : RR S T) : KO (f_Prc_useAccumulator S (183 : Int32)) (f_Mdl_arithmetic T (183 : Int32)) := by
  rw [ec_B7, em_B7]
  obtain ⟨f1, f2, f3, f4⟩ := sp_23 h
  obtain ⟨l1, l2, l3⟩ := s_load f2 f3 (WN_A h)
  have lf := (fr_rv (S := (f_Opd_place S 23).2) (c := (f_Opd_place S 23).1) (WN_A h)).trans f4
  have hw := WN_fr h lf
  exact ⟨rfl, rfl, s_setA2 l3 hw l1⟩
theorem ec_B8 (S : Sc) : f_Prc_changeFlags S (184 : Int32) = ((1 : Int32), (f_Reg_putFlag S (64 : Int32) (0 : Int32))) := rfl
theorem em_B8 (T : Sc) : f_Mdl_other T (184 : Int32) = ((1 : Int32), (f_Mdl_flag T (64 : Int32) (0 : Int32))) := rfl
theorem o_B8 {S T : Sc} (h : RR S T) : KO (f_Prc_changeFlags S (184 : Int32)) (f_Mdl_other T (184 : Int32)) := by
  rw [ec_B8, em_B8]
  exact ⟨rfl, rfl, s_flag h 64 0 (by decide)⟩
theorem ec_B9 (S : Sc) : f_Prc_useAccumulator S (185 : Int32) = ((1 : Int32), (f_Reg_loadA (f_Bus_readValue (f_Opd_place S (25 : Int32)).2 (f_Opd_place S (25 : Int32)).1 (f_Reg_wideA S)).2 (f_Bus_readValue (f_Opd_place S (25 : Int32)).2 (f_Opd_place S (25 : Int32)).1 (f_Reg_wideA S)).1)) := rfl
theorem em_B9 (T : Sc) : f_Mdl_arithmetic T (185 : Int32) = ((1 : Int32), (f_Mdl_setAccumulator (f_Mdl_result (f_Mdl_load (f_Mdl_find T (25 : Int32)).2 (f_Mdl_is T (32 : Int32))).2 (f_Mdl_load (f_Mdl_find T (25 : Int32)).2 (f_Mdl_is T (32 : Int32))).1 (f_Mdl_is T (32 : Int32))).2 (f_Mdl_result (f_Mdl_load (f_Mdl_find T (25 : Int32)).2 (f_Mdl_is T (32 : Int32))).2 (f_Mdl_load (f_Mdl_find T (25 : Int32)).2 (f_Mdl_is T (32 : Int32))).1 (f_Mdl_is T (32 : Int32))).1)) := by
  have e : f_Mdl_arithmetic T (185 : Int32) = if (f_Mdl_find T (25 : Int32)).1 = (0 : Int32) then (((0 : Int32), (f_Mdl_find T (25 : Int32)).2)) else (((1 : Int32), (f_Mdl_setAccumulator (f_Mdl_result (f_Mdl_load (f_Mdl_find T (25 : Int32)).2 (f_Mdl_is T (32 : Int32))).2 (f_Mdl_load (f_Mdl_find T (25 : Int32)).2 (f_Mdl_is T (32 : Int32))).1 (f_Mdl_is T (32 : Int32))).2 (f_Mdl_result (f_Mdl_load (f_Mdl_find T (25 : Int32)).2 (f_Mdl_is T (32 : Int32))).2 (f_Mdl_load (f_Mdl_find T (25 : Int32)).2 (f_Mdl_is T (32 : Int32))).1 (f_Mdl_is T (32 : Int32))).1))) := rfl
  rw [e, fd1_25, if_neg (by decide : ¬ (1 : Int32) = 0)]
theorem o_B9 {S T : Sc} (h : RR S T) : KO (f_Prc_useAccumulator S (185 : Int32)) (f_Mdl_arithmetic T (185 : Int32)) := by
  rw [ec_B9, em_B9]
  obtain ⟨f1, f2, f3, f4⟩ := sp_25 h
  obtain ⟨l1, l2, l3⟩ := s_load f2 f3 (WN_A h)
  have lf := (fr_rv (S := (f_Opd_place S 25).2) (c := (f_Opd_place S 25).1) (WN_A h)).trans f4
  have hw := WN_fr h lf
  exact ⟨rfl, rfl, s_setA2 l3 hw l1⟩
theorem ec_BA (S : Sc) : f_Prc_transfer S (186 : Int32) = ((1 : Int32), (f_Reg_loadX S (S.1 3))) := rfl
theorem em_BA (T : Sc) : f_Mdl_transfer T (186 : Int32) = ((1 : Int32), (pr (f_Mdl_result T (T.1 3) (f_Mdl_is T (16 : Int32))).2 1 ((f_Mdl_result T (T.1 3) (f_Mdl_is T (16 : Int32))).1))) := rfl
theorem o_BA {S T : Sc} (h : RR S T) : KO (f_Prc_transfer S (186 : Int32)) (f_Mdl_transfer T (186 : Int32)) := by
  rw [ec_BA, em_BA]
  exact ⟨rfl, rfl, s_loadX2 h (WN_I h) (RRe_3 h)⟩
theorem ec_BB (S : Sc) : f_Prc_transfer S (187 : Int32) = ((1 : Int32), (f_Reg_loadX S (S.1 2))) := rfl
theorem em_BB (T : Sc) : f_Mdl_transfer T (187 : Int32) = ((1 : Int32), (pr (f_Mdl_result T (T.1 2) (f_Mdl_is T (16 : Int32))).2 1 ((f_Mdl_result T (T.1 2) (f_Mdl_is T (16 : Int32))).1))) := rfl
theorem o_BB {S T : Sc} (h : RR S T) : KO (f_Prc_transfer S (187 : Int32)) (f_Mdl_transfer T (187 : Int32)) := by
  rw [ec_BB, em_BB]
  exact ⟨rfl, rfl, s_loadX2 h (WN_I h) (RRe_2 h)⟩
theorem ec_BD (S : Sc) : f_Prc_useAccumulator S (189 : Int32) = ((1 : Int32), (f_Reg_loadA (f_Bus_readValue (f_Opd_place S (29 : Int32)).2 (f_Opd_place S (29 : Int32)).1 (f_Reg_wideA S)).2 (f_Bus_readValue (f_Opd_place S (29 : Int32)).2 (f_Opd_place S (29 : Int32)).1 (f_Reg_wideA S)).1)) := rfl
theorem em_BD (T : Sc) : f_Mdl_arithmetic T (189 : Int32) = ((1 : Int32), (f_Mdl_setAccumulator (f_Mdl_result (f_Mdl_load (f_Mdl_find T (29 : Int32)).2 (f_Mdl_is T (32 : Int32))).2 (f_Mdl_load (f_Mdl_find T (29 : Int32)).2 (f_Mdl_is T (32 : Int32))).1 (f_Mdl_is T (32 : Int32))).2 (f_Mdl_result (f_Mdl_load (f_Mdl_find T (29 : Int32)).2 (f_Mdl_is T (32 : Int32))).2 (f_Mdl_load (f_Mdl_find T (29 : Int32)).2 (f_Mdl_is T (32 : Int32))).1 (f_Mdl_is T (32 : Int32))).1)) := by
  have e : f_Mdl_arithmetic T (189 : Int32) = if (f_Mdl_find T (29 : Int32)).1 = (0 : Int32) then (((0 : Int32), (f_Mdl_find T (29 : Int32)).2)) else (((1 : Int32), (f_Mdl_setAccumulator (f_Mdl_result (f_Mdl_load (f_Mdl_find T (29 : Int32)).2 (f_Mdl_is T (32 : Int32))).2 (f_Mdl_load (f_Mdl_find T (29 : Int32)).2 (f_Mdl_is T (32 : Int32))).1 (f_Mdl_is T (32 : Int32))).2 (f_Mdl_result (f_Mdl_load (f_Mdl_find T (29 : Int32)).2 (f_Mdl_is T (32 : Int32))).2 (f_Mdl_load (f_Mdl_find T (29 : Int32)).2 (f_Mdl_is T (32 : Int32))).1 (f_Mdl_is T (32 : Int32))).1))) := rfl
  rw [e, fd1_29, if_neg (by decide : ¬ (1 : Int32) = 0)]
theorem o_BD {S T : Sc} (h : RR S T) : KO (f_Prc_useAccumulator S (189 : Int32)) (f_Mdl_arithmetic T (189 : Int32)) := by
  rw [ec_BD, em_BD]
  obtain ⟨f1, f2, f3, f4⟩ := sp_29 h
  obtain ⟨l1, l2, l3⟩ := s_load f2 f3 (WN_A h)
  have lf := (fr_rv (S := (f_Opd_place S 29).2) (c := (f_Opd_place S 29).1) (WN_A h)).trans f4
  have hw := WN_fr h lf
  exact ⟨rfl, rfl, s_setA2 l3 hw l1⟩
theorem ec_BF (S : Sc) : f_Prc_useAccumulator S (191 : Int32) = ((1 : Int32), (f_Reg_loadA (f_Bus_readValue (f_Opd_place S (31 : Int32)).2 (f_Opd_place S (31 : Int32)).1 (f_Reg_wideA S)).2 (f_Bus_readValue (f_Opd_place S (31 : Int32)).2 (f_Opd_place S (31 : Int32)).1 (f_Reg_wideA S)).1)) := rfl
theorem em_BF (T : Sc) : f_Mdl_arithmetic T (191 : Int32) = ((1 : Int32), (f_Mdl_setAccumulator (f_Mdl_result (f_Mdl_load (f_Mdl_find T (31 : Int32)).2 (f_Mdl_is T (32 : Int32))).2 (f_Mdl_load (f_Mdl_find T (31 : Int32)).2 (f_Mdl_is T (32 : Int32))).1 (f_Mdl_is T (32 : Int32))).2 (f_Mdl_result (f_Mdl_load (f_Mdl_find T (31 : Int32)).2 (f_Mdl_is T (32 : Int32))).2 (f_Mdl_load (f_Mdl_find T (31 : Int32)).2 (f_Mdl_is T (32 : Int32))).1 (f_Mdl_is T (32 : Int32))).1)) := by
  have e : f_Mdl_arithmetic T (191 : Int32) = if (f_Mdl_find T (31 : Int32)).1 = (0 : Int32) then (((0 : Int32), (f_Mdl_find T (31 : Int32)).2)) else (((1 : Int32), (f_Mdl_setAccumulator (f_Mdl_result (f_Mdl_load (f_Mdl_find T (31 : Int32)).2 (f_Mdl_is T (32 : Int32))).2 (f_Mdl_load (f_Mdl_find T (31 : Int32)).2 (f_Mdl_is T (32 : Int32))).1 (f_Mdl_is T (32 : Int32))).2 (f_Mdl_result (f_Mdl_load (f_Mdl_find T (31 : Int32)).2 (f_Mdl_is T (32 : Int32))).2 (f_Mdl_load (f_Mdl_find T (31 : Int32)).2 (f_Mdl_is T (32 : Int32))).1 (f_Mdl_is T (32 : Int32))).1))) := rfl
  rw [e, fd1_31, if_neg (by decide : ¬ (1 : Int32) = 0)]
theorem o_BF {S T : Sc} (h : RR S T) : KO (f_Prc_useAccumulator S (191 : Int32)) (f_Mdl_arithmetic T (191 : Int32)) := by
  rw [ec_BF, em_BF]
  obtain ⟨f1, f2, f3, f4⟩ := sp_31 h
  obtain ⟨l1, l2, l3⟩ := s_load f2 f3 (WN_A h)
  have lf := (fr_rv (S := (f_Opd_place S 31).2) (c := (f_Opd_place S 31).1) (WN_A h)).trans f4
  have hw := WN_fr h lf
  exact ⟨rfl, rfl, s_setA2 l3 hw l1⟩
theorem ec_C0 (S : Sc) : f_Prc_useIndex S (192 : Int32) = ((1 : Int32), (f_Prc_compare (f_Opd_nextValue S (f_Reg_wideIndex S)).2 (S.1 2) (f_Opd_nextValue S (f_Reg_wideIndex S)).1 (f_Reg_wideIndex S))) := rfl
theorem em_C0 (T : Sc) : f_Mdl_index T (192 : Int32) = ((1 : Int32), (f_Mdl_compare (f_Mdl_immediate T (f_Mdl_is T (16 : Int32))).2 (T.1 2) (f_Mdl_immediate T (f_Mdl_is T (16 : Int32))).1 (f_Mdl_is T (16 : Int32)))) := rfl
theorem o_C0 {S T : Sc} (h : RR S T) : KO (f_Prc_useIndex S (192 : Int32)) (f_Mdl_index T (192 : Int32)) := by
  rw [ec_C0, em_C0]
  obtain ⟨l1, l2, l3⟩ := s_nv h (WN_I h)
  exact ⟨rfl, rfl, s_cmp2 l3 (WN_I h) (RRe_2 h) l1⟩
theorem ec_C1 (S : Sc) : f_Prc_useAccumulator S (193 : Int32) = ((1 : Int32), (f_Prc_compare (f_Bus_readValue (f_Opd_place S (1 : Int32)).2 (f_Opd_place S (1 : Int32)).1 (f_Reg_wideA S)).2 (f_Reg_a (f_Bus_readValue (f_Opd_place S (1 : Int32)).2 (f_Opd_place S (1 : Int32)).1 (f_Reg_wideA S)).2) (f_Bus_readValue (f_Opd_place S (1 : Int32)).2 (f_Opd_place S (1 : Int32)).1 (f_Reg_wideA S)).1 (f_Reg_wideA S))) := rfl
theorem em_C1 (T : Sc) : f_Mdl_arithmetic T (193 : Int32) = ((1 : Int32), (f_Mdl_compare (f_Mdl_load (f_Mdl_find T (1 : Int32)).2 (f_Mdl_is T (32 : Int32))).2 (f_Mdl_accumulator (f_Mdl_load (f_Mdl_find T (1 : Int32)).2 (f_Mdl_is T (32 : Int32))).2) (f_Mdl_load (f_Mdl_find T (1 : Int32)).2 (f_Mdl_is T (32 : Int32))).1 (f_Mdl_is T (32 : Int32)))) := by
  have e : f_Mdl_arithmetic T (193 : Int32) = if (f_Mdl_find T (1 : Int32)).1 = (0 : Int32) then (((0 : Int32), (f_Mdl_find T (1 : Int32)).2)) else (((1 : Int32), (f_Mdl_compare (f_Mdl_load (f_Mdl_find T (1 : Int32)).2 (f_Mdl_is T (32 : Int32))).2 (f_Mdl_accumulator (f_Mdl_load (f_Mdl_find T (1 : Int32)).2 (f_Mdl_is T (32 : Int32))).2) (f_Mdl_load (f_Mdl_find T (1 : Int32)).2 (f_Mdl_is T (32 : Int32))).1 (f_Mdl_is T (32 : Int32))))) := rfl
  rw [e, fd1_1, if_neg (by decide : ¬ (1 : Int32) = 0)]
theorem o_C1 {S T : Sc} (h : RR S T) : KO (f_Prc_useAccumulator S (193 : Int32)) (f_Mdl_arithmetic T (193 : Int32)) := by
  rw [ec_C1, em_C1]
  obtain ⟨f1, f2, f3, f4⟩ := sp_1 h
  obtain ⟨l1, l2, l3⟩ := s_load f2 f3 (WN_A h)
  have lf := (fr_rv (S := (f_Opd_place S 1).2) (c := (f_Opd_place S 1).1) (WN_A h)).trans f4
  have hw := WN_fr h lf
  exact ⟨rfl, rfl, s_cmp2 l3 (WN_A h) (acc_eq l3) l1⟩
theorem ec_C2 (S : Sc) : f_Prc_changeFlags S (194 : Int32) = ((1 : Int32), (f_Reg_replaceP (f_Opd_nextByte S).2 ((S.1 8) &&& ((f_Opd_nextByte S).1 ^^^ (-1 : Int32))))) := rfl
theorem em_C2 (T : Sc) : f_Mdl_other T (194 : Int32) = ((1 : Int32), (f_Mdl_setFlags (f_Mdl_next T).2 ((T.1 6) &&& ((f_Mdl_next T).1 ^^^ (-1 : Int32))))) := rfl
theorem o_C2 {S T : Sc} (h : RR S T) : KO (f_Prc_changeFlags S (194 : Int32)) (f_Mdl_other T (194 : Int32)) := by
  rw [ec_C2, em_C2]
  obtain ⟨a1, a2, a3⟩ := s_next h
  exact ⟨rfl, rfl, s_setP a3 (by rw [← a1, ← RRe_8 h]; exact (r8_and (RRr_8 h) _).symm)⟩
theorem ec_C3 (S : Sc) : f_Prc_useAccumulator S (195 : Int32) = ((1 : Int32), (f_Prc_compare (f_Bus_readValue (f_Opd_place S (3 : Int32)).2 (f_Opd_place S (3 : Int32)).1 (f_Reg_wideA S)).2 (f_Reg_a (f_Bus_readValue (f_Opd_place S (3 : Int32)).2 (f_Opd_place S (3 : Int32)).1 (f_Reg_wideA S)).2) (f_Bus_readValue (f_Opd_place S (3 : Int32)).2 (f_Opd_place S (3 : Int32)).1 (f_Reg_wideA S)).1 (f_Reg_wideA S))) := rfl
theorem em_C3 (T : Sc) : f_Mdl_arithmetic T (195 : Int32) = ((1 : Int32), (f_Mdl_compare (f_Mdl_load (f_Mdl_find T (3 : Int32)).2 (f_Mdl_is T (32 : Int32))).2 (f_Mdl_accumulator (f_Mdl_load (f_Mdl_find T (3 : Int32)).2 (f_Mdl_is T (32 : Int32))).2) (f_Mdl_load (f_Mdl_find T (3 : Int32)).2 (f_Mdl_is T (32 : Int32))).1 (f_Mdl_is T (32 : Int32)))) := by
  have e : f_Mdl_arithmetic T (195 : Int32) = if (f_Mdl_find T (3 : Int32)).1 = (0 : Int32) then (((0 : Int32), (f_Mdl_find T (3 : Int32)).2)) else (((1 : Int32), (f_Mdl_compare (f_Mdl_load (f_Mdl_find T (3 : Int32)).2 (f_Mdl_is T (32 : Int32))).2 (f_Mdl_accumulator (f_Mdl_load (f_Mdl_find T (3 : Int32)).2 (f_Mdl_is T (32 : Int32))).2) (f_Mdl_load (f_Mdl_find T (3 : Int32)).2 (f_Mdl_is T (32 : Int32))).1 (f_Mdl_is T (32 : Int32))))) := rfl
  rw [e, fd1_3, if_neg (by decide : ¬ (1 : Int32) = 0)]
theorem o_C3 {S T : Sc} (h : RR S T) : KO (f_Prc_useAccumulator S (195 : Int32)) (f_Mdl_arithmetic T (195 : Int32)) := by
  rw [ec_C3, em_C3]
  obtain ⟨f1, f2, f3, f4⟩ := sp_3 h
  obtain ⟨l1, l2, l3⟩ := s_load f2 f3 (WN_A h)
  have lf := (fr_rv (S := (f_Opd_place S 3).2) (c := (f_Opd_place S 3).1) (WN_A h)).trans f4
  have hw := WN_fr h lf
  exact ⟨rfl, rfl, s_cmp2 l3 (WN_A h) (acc_eq l3) l1⟩
theorem ec_C5 (S : Sc) : f_Prc_useAccumulator S (197 : Int32) = ((1 : Int32), (f_Prc_compare (f_Bus_readValue (f_Opd_place S (5 : Int32)).2 (f_Opd_place S (5 : Int32)).1 (f_Reg_wideA S)).2 (f_Reg_a (f_Bus_readValue (f_Opd_place S (5 : Int32)).2 (f_Opd_place S (5 : Int32)).1 (f_Reg_wideA S)).2) (f_Bus_readValue (f_Opd_place S (5 : Int32)).2 (f_Opd_place S (5 : Int32)).1 (f_Reg_wideA S)).1 (f_Reg_wideA S))) := rfl
theorem em_C5 (T : Sc) : f_Mdl_arithmetic T (197 : Int32) = ((1 : Int32), (f_Mdl_compare (f_Mdl_load (f_Mdl_find T (5 : Int32)).2 (f_Mdl_is T (32 : Int32))).2 (f_Mdl_accumulator (f_Mdl_load (f_Mdl_find T (5 : Int32)).2 (f_Mdl_is T (32 : Int32))).2) (f_Mdl_load (f_Mdl_find T (5 : Int32)).2 (f_Mdl_is T (32 : Int32))).1 (f_Mdl_is T (32 : Int32)))) := by
  have e : f_Mdl_arithmetic T (197 : Int32) = if (f_Mdl_find T (5 : Int32)).1 = (0 : Int32) then (((0 : Int32), (f_Mdl_find T (5 : Int32)).2)) else (((1 : Int32), (f_Mdl_compare (f_Mdl_load (f_Mdl_find T (5 : Int32)).2 (f_Mdl_is T (32 : Int32))).2 (f_Mdl_accumulator (f_Mdl_load (f_Mdl_find T (5 : Int32)).2 (f_Mdl_is T (32 : Int32))).2) (f_Mdl_load (f_Mdl_find T (5 : Int32)).2 (f_Mdl_is T (32 : Int32))).1 (f_Mdl_is T (32 : Int32))))) := rfl
  rw [e, fd1_5, if_neg (by decide : ¬ (1 : Int32) = 0)]
theorem o_C5 {S T : Sc} (h : RR S T) : KO (f_Prc_useAccumulator S (197 : Int32)) (f_Mdl_arithmetic T (197 : Int32)) := by
  rw [ec_C5, em_C5]
  obtain ⟨f1, f2, f3, f4⟩ := sp_5 h
  obtain ⟨l1, l2, l3⟩ := s_load f2 f3 (WN_A h)
  have lf := (fr_rv (S := (f_Opd_place S 5).2) (c := (f_Opd_place S 5).1) (WN_A h)).trans f4
  have hw := WN_fr h lf
  exact ⟨rfl, rfl, s_cmp2 l3 (WN_A h) (acc_eq l3) l1⟩
theorem ec_C6 (S : Sc) : f_Prc_changeMemory S (198 : Int32) = ((1 : Int32), (f_Bus_writeValue (f_Reg_showResult (f_Prc_changed (f_Bus_readValue (f_Opd_place S (5 : Int32)).2 (f_Opd_place S (5 : Int32)).1 (f_Reg_wideA S)).2 (6 : Int32) (f_Bus_readValue (f_Opd_place S (5 : Int32)).2 (f_Opd_place S (5 : Int32)).1 (f_Reg_wideA S)).1 (f_Reg_wideA S)).2 (f_Prc_changed (f_Bus_readValue (f_Opd_place S (5 : Int32)).2 (f_Opd_place S (5 : Int32)).1 (f_Reg_wideA S)).2 (6 : Int32) (f_Bus_readValue (f_Opd_place S (5 : Int32)).2 (f_Opd_place S (5 : Int32)).1 (f_Reg_wideA S)).1 (f_Reg_wideA S)).1 (f_Reg_wideA S)) (f_Opd_place S (5 : Int32)).1 (f_Prc_changed (f_Bus_readValue (f_Opd_place S (5 : Int32)).2 (f_Opd_place S (5 : Int32)).1 (f_Reg_wideA S)).2 (6 : Int32) (f_Bus_readValue (f_Opd_place S (5 : Int32)).2 (f_Opd_place S (5 : Int32)).1 (f_Reg_wideA S)).1 (f_Reg_wideA S)).1 (f_Reg_wideA S))) := rfl
theorem em_C6 (T : Sc) : f_Mdl_change T (198 : Int32) = ((1 : Int32), (f_Mdl_changeMemory T (1 : Int32) (0 : Int32))) := rfl
theorem o_C6 {S T : Sc} (h : RR S T) : KO (f_Prc_changeMemory S (198 : Int32)) (f_Mdl_change T (198 : Int32)) := by
  rw [ec_C6, em_C6]
  exact ⟨rfl, rfl, s_cm h 5 0 (Or.inl ⟨rfl, rfl⟩) (cm0 T 1) (fun {S T : Sc} {v w n : Int32} => sc_6)⟩
theorem ec_C7 (S : Sc) : f_Prc_useAccumulator S (199 : Int32) = ((1 : Int32), (f_Prc_compare (f_Bus_readValue (f_Opd_place S (7 : Int32)).2 (f_Opd_place S (7 : Int32)).1 (f_Reg_wideA S)).2 (f_Reg_a (f_Bus_readValue (f_Opd_place S (7 : Int32)).2 (f_Opd_place S (7 : Int32)).1 (f_Reg_wideA S)).2) (f_Bus_readValue (f_Opd_place S (7 : Int32)).2 (f_Opd_place S (7 : Int32)).1 (f_Reg_wideA S)).1 (f_Reg_wideA S))) := rfl
theorem em_C7 (T : Sc) : f_Mdl_arithmetic T (199 : Int32) = ((1 : Int32), (f_Mdl_compare (f_Mdl_load (f_Mdl_find T (7 : Int32)).2 (f_Mdl_is T (32 : Int32))).2 (f_Mdl_accumulator (f_Mdl_load (f_Mdl_find T (7 : Int32)).2 (f_Mdl_is T (32 : Int32))).2) (f_Mdl_load (f_Mdl_find T (7 : Int32)).2 (f_Mdl_is T (32 : Int32))).1 (f_Mdl_is T (32 : Int32)))) := by
  have e : f_Mdl_arithmetic T (199 : Int32) = if (f_Mdl_find T (7 : Int32)).1 = (0 : Int32) then (((0 : Int32), (f_Mdl_find T (7 : Int32)).2)) else (((1 : Int32), (f_Mdl_compare (f_Mdl_load (f_Mdl_find T (7 : Int32)).2 (f_Mdl_is T (32 : Int32))).2 (f_Mdl_accumulator (f_Mdl_load (f_Mdl_find T (7 : Int32)).2 (f_Mdl_is T (32 : Int32))).2) (f_Mdl_load (f_Mdl_find T (7 : Int32)).2 (f_Mdl_is T (32 : Int32))).1 (f_Mdl_is T (32 : Int32))))) := rfl
  rw [e, fd1_7, if_neg (by decide : ¬ (1 : Int32) = 0)]
theorem o_C7 {S T : Sc} (h : RR S T) : KO (f_Prc_useAccumulator S (199 : Int32)) (f_Mdl_arithmetic T (199 : Int32)) := by
  rw [ec_C7, em_C7]
  obtain ⟨f1, f2, f3, f4⟩ := sp_7 h
  obtain ⟨l1, l2, l3⟩ := s_load f2 f3 (WN_A h)
  have lf := (fr_rv (S := (f_Opd_place S 7).2) (c := (f_Opd_place S 7).1) (WN_A h)).trans f4
  have hw := WN_fr h lf
  exact ⟨rfl, rfl, s_cmp2 l3 (WN_A h) (acc_eq l3) l1⟩
theorem ec_C8 (S : Sc) : f_Prc_changeRegister S (200 : Int32) = ((1 : Int32), (f_Reg_loadY S ((S.1 2) + (1 : Int32)))) := rfl
theorem em_C8 (T : Sc) : f_Mdl_index T (200 : Int32) = ((1 : Int32), (pr (f_Mdl_result T ((T.1 2) + (1 : Int32)) (f_Mdl_is T (16 : Int32))).2 2 ((f_Mdl_result T ((T.1 2) + (1 : Int32)) (f_Mdl_is T (16 : Int32))).1))) := rfl
theorem o_C8 {S T : Sc} (h : RR S T) : KO (f_Prc_changeRegister S (200 : Int32)) (f_Mdl_index T (200 : Int32)) := by
  rw [ec_C8, em_C8]
  exact ⟨rfl, rfl, s_loadY2 h (WN_I h) (by rw [RRe_2 h])⟩
theorem ec_C9 (S : Sc) : f_Prc_useAccumulator S (201 : Int32) = ((1 : Int32), (f_Prc_compare (f_Opd_nextValue S (f_Reg_wideA S)).2 (f_Reg_a (f_Opd_nextValue S (f_Reg_wideA S)).2) (f_Opd_nextValue S (f_Reg_wideA S)).1 (f_Reg_wideA S))) := rfl
theorem em_C9 (T : Sc) : f_Mdl_arithmetic T (201 : Int32) = ((1 : Int32), (f_Mdl_compare (f_Mdl_immediate T (f_Mdl_is T (32 : Int32))).2 (f_Mdl_accumulator (f_Mdl_immediate T (f_Mdl_is T (32 : Int32))).2) (f_Mdl_immediate T (f_Mdl_is T (32 : Int32))).1 (f_Mdl_is T (32 : Int32)))) := rfl
theorem o_C9 {S T : Sc} (h : RR S T) : KO (f_Prc_useAccumulator S (201 : Int32)) (f_Mdl_arithmetic T (201 : Int32)) := by
  rw [ec_C9, em_C9]
  obtain ⟨l1, l2, l3⟩ := s_nv h (WN_A h)
  have lf := fr_nv (S := S) (WN_A h)
  have hw := WN_fr h lf
  exact ⟨rfl, rfl, s_cmp2 l3 (WN_A h) (acc_eq l3) l1⟩
theorem ec_CA (S : Sc) : f_Prc_changeRegister S (202 : Int32) = ((1 : Int32), (f_Reg_loadX S ((S.1 1) - (1 : Int32)))) := rfl
theorem em_CA (T : Sc) : f_Mdl_index T (202 : Int32) = ((1 : Int32), (pr (f_Mdl_result T ((T.1 1) - (1 : Int32)) (f_Mdl_is T (16 : Int32))).2 1 ((f_Mdl_result T ((T.1 1) - (1 : Int32)) (f_Mdl_is T (16 : Int32))).1))) := rfl
theorem o_CA {S T : Sc} (h : RR S T) : KO (f_Prc_changeRegister S (202 : Int32)) (f_Mdl_index T (202 : Int32)) := by
  rw [ec_CA, em_CA]
  exact ⟨rfl, rfl, s_loadX2 h (WN_I h) (by rw [RRe_1 h])⟩
theorem ec_CD (S : Sc) : f_Prc_useAccumulator S (205 : Int32) = ((1 : Int32), (f_Prc_compare (f_Bus_readValue (f_Opd_place S (13 : Int32)).2 (f_Opd_place S (13 : Int32)).1 (f_Reg_wideA S)).2 (f_Reg_a (f_Bus_readValue (f_Opd_place S (13 : Int32)).2 (f_Opd_place S (13 : Int32)).1 (f_Reg_wideA S)).2) (f_Bus_readValue (f_Opd_place S (13 : Int32)).2 (f_Opd_place S (13 : Int32)).1 (f_Reg_wideA S)).1 (f_Reg_wideA S))) := rfl
theorem em_CD (T : Sc) : f_Mdl_arithmetic T (205 : Int32) = ((1 : Int32), (f_Mdl_compare (f_Mdl_load (f_Mdl_find T (13 : Int32)).2 (f_Mdl_is T (32 : Int32))).2 (f_Mdl_accumulator (f_Mdl_load (f_Mdl_find T (13 : Int32)).2 (f_Mdl_is T (32 : Int32))).2) (f_Mdl_load (f_Mdl_find T (13 : Int32)).2 (f_Mdl_is T (32 : Int32))).1 (f_Mdl_is T (32 : Int32)))) := by
  have e : f_Mdl_arithmetic T (205 : Int32) = if (f_Mdl_find T (13 : Int32)).1 = (0 : Int32) then (((0 : Int32), (f_Mdl_find T (13 : Int32)).2)) else (((1 : Int32), (f_Mdl_compare (f_Mdl_load (f_Mdl_find T (13 : Int32)).2 (f_Mdl_is T (32 : Int32))).2 (f_Mdl_accumulator (f_Mdl_load (f_Mdl_find T (13 : Int32)).2 (f_Mdl_is T (32 : Int32))).2) (f_Mdl_load (f_Mdl_find T (13 : Int32)).2 (f_Mdl_is T (32 : Int32))).1 (f_Mdl_is T (32 : Int32))))) := rfl
  rw [e, fd1_13, if_neg (by decide : ¬ (1 : Int32) = 0)]
theorem o_CD {S T : Sc} (h : RR S T) : KO (f_Prc_useAccumulator S (205 : Int32)) (f_Mdl_arithmetic T (205 : Int32)) := by
  rw [ec_CD, em_CD]
  obtain ⟨f1, f2, f3, f4⟩ := sp_13 h
  obtain ⟨l1, l2, l3⟩ := s_load f2 f3 (WN_A h)
  have lf := (fr_rv (S := (f_Opd_place S 13).2) (c := (f_Opd_place S 13).1) (WN_A h)).trans f4
  have hw := WN_fr h lf
  exact ⟨rfl, rfl, s_cmp2 l3 (WN_A h) (acc_eq l3) l1⟩
theorem ec_CE (S : Sc) : f_Prc_changeMemory S (206 : Int32) = ((1 : Int32), (f_Bus_writeValue (f_Reg_showResult (f_Prc_changed (f_Bus_readValue (f_Opd_place S (13 : Int32)).2 (f_Opd_place S (13 : Int32)).1 (f_Reg_wideA S)).2 (6 : Int32) (f_Bus_readValue (f_Opd_place S (13 : Int32)).2 (f_Opd_place S (13 : Int32)).1 (f_Reg_wideA S)).1 (f_Reg_wideA S)).2 (f_Prc_changed (f_Bus_readValue (f_Opd_place S (13 : Int32)).2 (f_Opd_place S (13 : Int32)).1 (f_Reg_wideA S)).2 (6 : Int32) (f_Bus_readValue (f_Opd_place S (13 : Int32)).2 (f_Opd_place S (13 : Int32)).1 (f_Reg_wideA S)).1 (f_Reg_wideA S)).1 (f_Reg_wideA S)) (f_Opd_place S (13 : Int32)).1 (f_Prc_changed (f_Bus_readValue (f_Opd_place S (13 : Int32)).2 (f_Opd_place S (13 : Int32)).1 (f_Reg_wideA S)).2 (6 : Int32) (f_Bus_readValue (f_Opd_place S (13 : Int32)).2 (f_Opd_place S (13 : Int32)).1 (f_Reg_wideA S)).1 (f_Reg_wideA S)).1 (f_Reg_wideA S))) := rfl
theorem em_CE (T : Sc) : f_Mdl_change T (206 : Int32) = ((1 : Int32), (f_Mdl_changeMemory T (1 : Int32) (1 : Int32))) := rfl
theorem o_CE {S T : Sc} (h : RR S T) : KO (f_Prc_changeMemory S (206 : Int32)) (f_Mdl_change T (206 : Int32)) := by
  rw [ec_CE, em_CE]
  exact ⟨rfl, rfl, s_cm h 13 1 (Or.inr ⟨rfl, rfl⟩) (cm1 T 1) (fun {S T : Sc} {v w n : Int32} => sc_6)⟩
theorem ec_CF (S : Sc) : f_Prc_useAccumulator S (207 : Int32) = ((1 : Int32), (f_Prc_compare (f_Bus_readValue (f_Opd_place S (15 : Int32)).2 (f_Opd_place S (15 : Int32)).1 (f_Reg_wideA S)).2 (f_Reg_a (f_Bus_readValue (f_Opd_place S (15 : Int32)).2 (f_Opd_place S (15 : Int32)).1 (f_Reg_wideA S)).2) (f_Bus_readValue (f_Opd_place S (15 : Int32)).2 (f_Opd_place S (15 : Int32)).1 (f_Reg_wideA S)).1 (f_Reg_wideA S))) := rfl
theorem em_CF (T : Sc) : f_Mdl_arithmetic T (207 : Int32) = ((1 : Int32), (f_Mdl_compare (f_Mdl_load (f_Mdl_find T (15 : Int32)).2 (f_Mdl_is T (32 : Int32))).2 (f_Mdl_accumulator (f_Mdl_load (f_Mdl_find T (15 : Int32)).2 (f_Mdl_is T (32 : Int32))).2) (f_Mdl_load (f_Mdl_find T (15 : Int32)).2 (f_Mdl_is T (32 : Int32))).1 (f_Mdl_is T (32 : Int32)))) := by
  have e : f_Mdl_arithmetic T (207 : Int32) = if (f_Mdl_find T (15 : Int32)).1 = (0 : Int32) then (((0 : Int32), (f_Mdl_find T (15 : Int32)).2)) else (((1 : Int32), (f_Mdl_compare (f_Mdl_load (f_Mdl_find T (15 : Int32)).2 (f_Mdl_is T (32 : Int32))).2 (f_Mdl_accumulator (f_Mdl_load (f_Mdl_find T (15 : Int32)).2 (f_Mdl_is T (32 : Int32))).2) (f_Mdl_load (f_Mdl_find T (15 : Int32)).2 (f_Mdl_is T (32 : Int32))).1 (f_Mdl_is T (32 : Int32))))) := rfl
  rw [e, fd1_15, if_neg (by decide : ¬ (1 : Int32) = 0)]
theorem o_CF {S T : Sc} (h : RR S T) : KO (f_Prc_useAccumulator S (207 : Int32)) (f_Mdl_arithmetic T (207 : Int32)) := by
  rw [ec_CF, em_CF]
  obtain ⟨f1, f2, f3, f4⟩ := sp_15 h
  obtain ⟨l1, l2, l3⟩ := s_load f2 f3 (WN_A h)
  have lf := (fr_rv (S := (f_Opd_place S 15).2) (c := (f_Opd_place S 15).1) (WN_A h)).trans f4
  have hw := WN_fr h lf
  exact ⟨rfl, rfl, s_cmp2 l3 (WN_A h) (acc_eq l3) l1⟩
theorem ec_D0 (S : Sc) : f_Prc_branch S (208 : Int32) = if (f_Reg_has (f_Opd_nextByte S).2 (bf ((3 : Int32)).toNatClampNeg)) = (0 : Int32) then (((1 : Int32), (f_Reg_jumpTo (f_Opd_nextByte S).2 (((f_Opd_nextByte S).2.1 7) + (((f_Opd_nextByte S).1).toInt8.toInt32))))) else (((1 : Int32), (f_Opd_nextByte S).2)) := rfl
theorem em_D0 (T : Sc) : f_Mdl_jump T (208 : Int32) = if (f_Mdl_is T (2 : Int32)) = (0 : Int32) then (((1 : Int32), (f_Mdl_branch T (1 : Int32)))) else (((1 : Int32), (f_Mdl_branch T (0 : Int32)))) := rfl
theorem o_D0 {S T : Sc} (h : RR S T) : KO (f_Prc_branch S (208 : Int32)) (f_Mdl_jump T (208 : Int32)) := by
  rw [ec_D0, em_D0]
  have e : f_Reg_has (f_Opd_nextByte S).2 (2 : Int32) = f_Mdl_is T (2 : Int32) := has_n h (2 : Int32)
  have eb : bf (3 : Int32).toNatClampNeg = (2 : Int32) := rfl
  rw [eb, e]
  by_cases z : f_Mdl_is T (2 : Int32) = (0 : Int32)
  · rw [if_pos z, if_pos z]; exact ⟨rfl, rfl, (s_br (x := 1) h).1 (by decide)⟩
  · rw [if_neg z, if_neg z]; exact ⟨rfl, rfl, (s_br (x := 0) h).2 rfl⟩
theorem ec_D1 (S : Sc) : f_Prc_useAccumulator S (209 : Int32) = ((1 : Int32), (f_Prc_compare (f_Bus_readValue (f_Opd_place S (17 : Int32)).2 (f_Opd_place S (17 : Int32)).1 (f_Reg_wideA S)).2 (f_Reg_a (f_Bus_readValue (f_Opd_place S (17 : Int32)).2 (f_Opd_place S (17 : Int32)).1 (f_Reg_wideA S)).2) (f_Bus_readValue (f_Opd_place S (17 : Int32)).2 (f_Opd_place S (17 : Int32)).1 (f_Reg_wideA S)).1 (f_Reg_wideA S))) := rfl
theorem em_D1 (T : Sc) : f_Mdl_arithmetic T (209 : Int32) = ((1 : Int32), (f_Mdl_compare (f_Mdl_load (f_Mdl_find T (17 : Int32)).2 (f_Mdl_is T (32 : Int32))).2 (f_Mdl_accumulator (f_Mdl_load (f_Mdl_find T (17 : Int32)).2 (f_Mdl_is T (32 : Int32))).2) (f_Mdl_load (f_Mdl_find T (17 : Int32)).2 (f_Mdl_is T (32 : Int32))).1 (f_Mdl_is T (32 : Int32)))) := by
  have e : f_Mdl_arithmetic T (209 : Int32) = if (f_Mdl_find T (17 : Int32)).1 = (0 : Int32) then (((0 : Int32), (f_Mdl_find T (17 : Int32)).2)) else (((1 : Int32), (f_Mdl_compare (f_Mdl_load (f_Mdl_find T (17 : Int32)).2 (f_Mdl_is T (32 : Int32))).2 (f_Mdl_accumulator (f_Mdl_load (f_Mdl_find T (17 : Int32)).2 (f_Mdl_is T (32 : Int32))).2) (f_Mdl_load (f_Mdl_find T (17 : Int32)).2 (f_Mdl_is T (32 : Int32))).1 (f_Mdl_is T (32 : Int32))))) := rfl
  rw [e, fd1_17, if_neg (by decide : ¬ (1 : Int32) = 0)]
theorem o_D1 {S T : Sc} (h : RR S T) : KO (f_Prc_useAccumulator S (209 : Int32)) (f_Mdl_arithmetic T (209 : Int32)) := by
  rw [ec_D1, em_D1]
  obtain ⟨f1, f2, f3, f4⟩ := sp_17 h
  obtain ⟨l1, l2, l3⟩ := s_load f2 f3 (WN_A h)
  have lf := (fr_rv (S := (f_Opd_place S 17).2) (c := (f_Opd_place S 17).1) (WN_A h)).trans f4
  have hw := WN_fr h lf
  exact ⟨rfl, rfl, s_cmp2 l3 (WN_A h) (acc_eq l3) l1⟩
theorem ec_D2 (S : Sc) : f_Prc_useAccumulator S (210 : Int32) = ((1 : Int32), (f_Prc_compare (f_Bus_readValue (f_Opd_place S (18 : Int32)).2 (f_Opd_place S (18 : Int32)).1 (f_Reg_wideA S)).2 (f_Reg_a (f_Bus_readValue (f_Opd_place S (18 : Int32)).2 (f_Opd_place S (18 : Int32)).1 (f_Reg_wideA S)).2) (f_Bus_readValue (f_Opd_place S (18 : Int32)).2 (f_Opd_place S (18 : Int32)).1 (f_Reg_wideA S)).1 (f_Reg_wideA S))) := rfl
theorem em_D2 (T : Sc) : f_Mdl_arithmetic T (210 : Int32) = ((1 : Int32), (f_Mdl_compare (f_Mdl_load (f_Mdl_find T (18 : Int32)).2 (f_Mdl_is T (32 : Int32))).2 (f_Mdl_accumulator (f_Mdl_load (f_Mdl_find T (18 : Int32)).2 (f_Mdl_is T (32 : Int32))).2) (f_Mdl_load (f_Mdl_find T (18 : Int32)).2 (f_Mdl_is T (32 : Int32))).1 (f_Mdl_is T (32 : Int32)))) := by
  have e : f_Mdl_arithmetic T (210 : Int32) = if (f_Mdl_find T (18 : Int32)).1 = (0 : Int32) then (((0 : Int32), (f_Mdl_find T (18 : Int32)).2)) else (((1 : Int32), (f_Mdl_compare (f_Mdl_load (f_Mdl_find T (18 : Int32)).2 (f_Mdl_is T (32 : Int32))).2 (f_Mdl_accumulator (f_Mdl_load (f_Mdl_find T (18 : Int32)).2 (f_Mdl_is T (32 : Int32))).2) (f_Mdl_load (f_Mdl_find T (18 : Int32)).2 (f_Mdl_is T (32 : Int32))).1 (f_Mdl_is T (32 : Int32))))) := rfl
  rw [e, fd1_18, if_neg (by decide : ¬ (1 : Int32) = 0)]
theorem o_D2 {S T : Sc} (h : RR S T) : KO (f_Prc_useAccumulator S (210 : Int32)) (f_Mdl_arithmetic T (210 : Int32)) := by
  rw [ec_D2, em_D2]
  obtain ⟨f1, f2, f3, f4⟩ := sp_18 h
  obtain ⟨l1, l2, l3⟩ := s_load f2 f3 (WN_A h)
  have lf := (fr_rv (S := (f_Opd_place S 18).2) (c := (f_Opd_place S 18).1) (WN_A h)).trans f4
  have hw := WN_fr h lf
  exact ⟨rfl, rfl, s_cmp2 l3 (WN_A h) (acc_eq l3) l1⟩
theorem ec_D3 (S : Sc) : f_Prc_useAccumulator S (211 : Int32) = ((1 : Int32), (f_Prc_compare (f_Bus_readValue (f_Opd_place S (19 : Int32)).2 (f_Opd_place S (19 : Int32)).1 (f_Reg_wideA S)).2 (f_Reg_a (f_Bus_readValue (f_Opd_place S (19 : Int32)).2 (f_Opd_place S (19 : Int32)).1 (f_Reg_wideA S)).2) (f_Bus_readValue (f_Opd_place S (19 : Int32)).2 (f_Opd_place S (19 : Int32)).1 (f_Reg_wideA S)).1 (f_Reg_wideA S))) := rfl
theorem em_D3 (T : Sc) : f_Mdl_arithmetic T (211 : Int32) = ((1 : Int32), (f_Mdl_compare (f_Mdl_load (f_Mdl_find T (19 : Int32)).2 (f_Mdl_is T (32 : Int32))).2 (f_Mdl_accumulator (f_Mdl_load (f_Mdl_find T (19 : Int32)).2 (f_Mdl_is T (32 : Int32))).2) (f_Mdl_load (f_Mdl_find T (19 : Int32)).2 (f_Mdl_is T (32 : Int32))).1 (f_Mdl_is T (32 : Int32)))) := by
  have e : f_Mdl_arithmetic T (211 : Int32) = if (f_Mdl_find T (19 : Int32)).1 = (0 : Int32) then (((0 : Int32), (f_Mdl_find T (19 : Int32)).2)) else (((1 : Int32), (f_Mdl_compare (f_Mdl_load (f_Mdl_find T (19 : Int32)).2 (f_Mdl_is T (32 : Int32))).2 (f_Mdl_accumulator (f_Mdl_load (f_Mdl_find T (19 : Int32)).2 (f_Mdl_is T (32 : Int32))).2) (f_Mdl_load (f_Mdl_find T (19 : Int32)).2 (f_Mdl_is T (32 : Int32))).1 (f_Mdl_is T (32 : Int32))))) := rfl
  rw [e, fd1_19, if_neg (by decide : ¬ (1 : Int32) = 0)]
theorem o_D3 {S T : Sc} (h : RR S T) : KO (f_Prc_useAccumulator S (211 : Int32)) (f_Mdl_arithmetic T (211 : Int32)) := by
  rw [ec_D3, em_D3]
  obtain ⟨f1, f2, f3, f4⟩ := sp_19 h
  obtain ⟨l1, l2, l3⟩ := s_load f2 f3 (WN_A h)
  have lf := (fr_rv (S := (f_Opd_place S 19).2) (c := (f_Opd_place S 19).1) (WN_A h)).trans f4
  have hw := WN_fr h lf
  exact ⟨rfl, rfl, s_cmp2 l3 (WN_A h) (acc_eq l3) l1⟩
theorem ec_D5 (S : Sc) : f_Prc_useAccumulator S (213 : Int32) = ((1 : Int32), (f_Prc_compare (f_Bus_readValue (f_Opd_place S (21 : Int32)).2 (f_Opd_place S (21 : Int32)).1 (f_Reg_wideA S)).2 (f_Reg_a (f_Bus_readValue (f_Opd_place S (21 : Int32)).2 (f_Opd_place S (21 : Int32)).1 (f_Reg_wideA S)).2) (f_Bus_readValue (f_Opd_place S (21 : Int32)).2 (f_Opd_place S (21 : Int32)).1 (f_Reg_wideA S)).1 (f_Reg_wideA S))) := rfl
theorem em_D5 (T : Sc) : f_Mdl_arithmetic T (213 : Int32) = ((1 : Int32), (f_Mdl_compare (f_Mdl_load (f_Mdl_find T (21 : Int32)).2 (f_Mdl_is T (32 : Int32))).2 (f_Mdl_accumulator (f_Mdl_load (f_Mdl_find T (21 : Int32)).2 (f_Mdl_is T (32 : Int32))).2) (f_Mdl_load (f_Mdl_find T (21 : Int32)).2 (f_Mdl_is T (32 : Int32))).1 (f_Mdl_is T (32 : Int32)))) := by
  have e : f_Mdl_arithmetic T (213 : Int32) = if (f_Mdl_find T (21 : Int32)).1 = (0 : Int32) then (((0 : Int32), (f_Mdl_find T (21 : Int32)).2)) else (((1 : Int32), (f_Mdl_compare (f_Mdl_load (f_Mdl_find T (21 : Int32)).2 (f_Mdl_is T (32 : Int32))).2 (f_Mdl_accumulator (f_Mdl_load (f_Mdl_find T (21 : Int32)).2 (f_Mdl_is T (32 : Int32))).2) (f_Mdl_load (f_Mdl_find T (21 : Int32)).2 (f_Mdl_is T (32 : Int32))).1 (f_Mdl_is T (32 : Int32))))) := rfl
  rw [e, fd1_21, if_neg (by decide : ¬ (1 : Int32) = 0)]
theorem o_D5 {S T : Sc} (h : RR S T) : KO (f_Prc_useAccumulator S (213 : Int32)) (f_Mdl_arithmetic T (213 : Int32)) := by
  rw [ec_D5, em_D5]
  obtain ⟨f1, f2, f3, f4⟩ := sp_21 h
  obtain ⟨l1, l2, l3⟩ := s_load f2 f3 (WN_A h)
  have lf := (fr_rv (S := (f_Opd_place S 21).2) (c := (f_Opd_place S 21).1) (WN_A h)).trans f4
  have hw := WN_fr h lf
  exact ⟨rfl, rfl, s_cmp2 l3 (WN_A h) (acc_eq l3) l1⟩
theorem ec_D7 (S : Sc) : f_Prc_useAccumulator S (215 : Int32) = ((1 : Int32), (f_Prc_compare (f_Bus_readValue (f_Opd_place S (23 : Int32)).2 (f_Opd_place S (23 : Int32)).1 (f_Reg_wideA S)).2 (f_Reg_a (f_Bus_readValue (f_Opd_place S (23 : Int32)).2 (f_Opd_place S (23 : Int32)).1 (f_Reg_wideA S)).2) (f_Bus_readValue (f_Opd_place S (23 : Int32)).2 (f_Opd_place S (23 : Int32)).1 (f_Reg_wideA S)).1 (f_Reg_wideA S))) := rfl
theorem em_D7 (T : Sc) : f_Mdl_arithmetic T (215 : Int32) = ((1 : Int32), (f_Mdl_compare (f_Mdl_load (f_Mdl_find T (23 : Int32)).2 (f_Mdl_is T (32 : Int32))).2 (f_Mdl_accumulator (f_Mdl_load (f_Mdl_find T (23 : Int32)).2 (f_Mdl_is T (32 : Int32))).2) (f_Mdl_load (f_Mdl_find T (23 : Int32)).2 (f_Mdl_is T (32 : Int32))).1 (f_Mdl_is T (32 : Int32)))) := by
  have e : f_Mdl_arithmetic T (215 : Int32) = if (f_Mdl_find T (23 : Int32)).1 = (0 : Int32) then (((0 : Int32), (f_Mdl_find T (23 : Int32)).2)) else (((1 : Int32), (f_Mdl_compare (f_Mdl_load (f_Mdl_find T (23 : Int32)).2 (f_Mdl_is T (32 : Int32))).2 (f_Mdl_accumulator (f_Mdl_load (f_Mdl_find T (23 : Int32)).2 (f_Mdl_is T (32 : Int32))).2) (f_Mdl_load (f_Mdl_find T (23 : Int32)).2 (f_Mdl_is T (32 : Int32))).1 (f_Mdl_is T (32 : Int32))))) := rfl
  rw [e, fd1_23, if_neg (by decide : ¬ (1 : Int32) = 0)]
theorem o_D7 {S T : Sc} (h : RR S T) : KO (f_Prc_useAccumulator S (215 : Int32)) (f_Mdl_arithmetic T (215 : Int32)) := by
  rw [ec_D7, em_D7]
  obtain ⟨f1, f2, f3, f4⟩ := sp_23 h
  obtain ⟨l1, l2, l3⟩ := s_load f2 f3 (WN_A h)
  have lf := (fr_rv (S := (f_Opd_place S 23).2) (c := (f_Opd_place S 23).1) (WN_A h)).trans f4
  have hw := WN_fr h lf
  exact ⟨rfl, rfl, s_cmp2 l3 (WN_A h) (acc_eq l3) l1⟩
theorem ec_D8 (S : Sc) : f_Prc_changeFlags S (216 : Int32) = ((1 : Int32), (f_Reg_putFlag S (8 : Int32) (0 : Int32))) := rfl
theorem em_D8 (T : Sc) : f_Mdl_other T (216 : Int32) = ((1 : Int32), (f_Mdl_flag T (8 : Int32) (0 : Int32))) := rfl
theorem o_D8 {S T : Sc} (h : RR S T) : KO (f_Prc_changeFlags S (216 : Int32)) (f_Mdl_other T (216 : Int32)) := by
  rw [ec_D8, em_D8]
  exact ⟨rfl, rfl, s_flag h 8 0 (by decide)⟩
theorem ec_D9 (S : Sc) : f_Prc_useAccumulator S (217 : Int32) = ((1 : Int32), (f_Prc_compare (f_Bus_readValue (f_Opd_place S (25 : Int32)).2 (f_Opd_place S (25 : Int32)).1 (f_Reg_wideA S)).2 (f_Reg_a (f_Bus_readValue (f_Opd_place S (25 : Int32)).2 (f_Opd_place S (25 : Int32)).1 (f_Reg_wideA S)).2) (f_Bus_readValue (f_Opd_place S (25 : Int32)).2 (f_Opd_place S (25 : Int32)).1 (f_Reg_wideA S)).1 (f_Reg_wideA S))) := rfl
theorem em_D9 (T : Sc) : f_Mdl_arithmetic T (217 : Int32) = ((1 : Int32), (f_Mdl_compare (f_Mdl_load (f_Mdl_find T (25 : Int32)).2 (f_Mdl_is T (32 : Int32))).2 (f_Mdl_accumulator (f_Mdl_load (f_Mdl_find T (25 : Int32)).2 (f_Mdl_is T (32 : Int32))).2) (f_Mdl_load (f_Mdl_find T (25 : Int32)).2 (f_Mdl_is T (32 : Int32))).1 (f_Mdl_is T (32 : Int32)))) := by
  have e : f_Mdl_arithmetic T (217 : Int32) = if (f_Mdl_find T (25 : Int32)).1 = (0 : Int32) then (((0 : Int32), (f_Mdl_find T (25 : Int32)).2)) else (((1 : Int32), (f_Mdl_compare (f_Mdl_load (f_Mdl_find T (25 : Int32)).2 (f_Mdl_is T (32 : Int32))).2 (f_Mdl_accumulator (f_Mdl_load (f_Mdl_find T (25 : Int32)).2 (f_Mdl_is T (32 : Int32))).2) (f_Mdl_load (f_Mdl_find T (25 : Int32)).2 (f_Mdl_is T (32 : Int32))).1 (f_Mdl_is T (32 : Int32))))) := rfl
  rw [e, fd1_25, if_neg (by decide : ¬ (1 : Int32) = 0)]
theorem o_D9 {S T : Sc} (h : RR S T) : KO (f_Prc_useAccumulator S (217 : Int32)) (f_Mdl_arithmetic T (217 : Int32)) := by
  rw [ec_D9, em_D9]
  obtain ⟨f1, f2, f3, f4⟩ := sp_25 h
  obtain ⟨l1, l2, l3⟩ := s_load f2 f3 (WN_A h)
  have lf := (fr_rv (S := (f_Opd_place S 25).2) (c := (f_Opd_place S 25).1) (WN_A h)).trans f4
  have hw := WN_fr h lf
  exact ⟨rfl, rfl, s_cmp2 l3 (WN_A h) (acc_eq l3) l1⟩
theorem ec_DA (S : Sc) : f_Prc_push S (218 : Int32) = ((1 : Int32), (f_Stk_pushValue S (S.1 1) (f_Reg_wideIndex S))) := rfl
theorem em_DA (T : Sc) : f_Mdl_stack T (218 : Int32) = ((1 : Int32), (f_Mdl_pushOf T (T.1 1) (f_Mdl_is T (16 : Int32)))) := rfl
theorem o_DA {S T : Sc} (h : RR S T) : KO (f_Prc_push S (218 : Int32)) (f_Mdl_stack T (218 : Int32)) := by
  rw [ec_DA, em_DA]
  exact ⟨rfl, rfl, s_pushV h (WN_I h) (fun _ => RRe_1 h) (by rw [RRe_1 h])⟩
theorem ec_DD (S : Sc) : f_Prc_useAccumulator S (221 : Int32) = ((1 : Int32), (f_Prc_compare (f_Bus_readValue (f_Opd_place S (29 : Int32)).2 (f_Opd_place S (29 : Int32)).1 (f_Reg_wideA S)).2 (f_Reg_a (f_Bus_readValue (f_Opd_place S (29 : Int32)).2 (f_Opd_place S (29 : Int32)).1 (f_Reg_wideA S)).2) (f_Bus_readValue (f_Opd_place S (29 : Int32)).2 (f_Opd_place S (29 : Int32)).1 (f_Reg_wideA S)).1 (f_Reg_wideA S))) := rfl
theorem em_DD (T : Sc) : f_Mdl_arithmetic T (221 : Int32) = ((1 : Int32), (f_Mdl_compare (f_Mdl_load (f_Mdl_find T (29 : Int32)).2 (f_Mdl_is T (32 : Int32))).2 (f_Mdl_accumulator (f_Mdl_load (f_Mdl_find T (29 : Int32)).2 (f_Mdl_is T (32 : Int32))).2) (f_Mdl_load (f_Mdl_find T (29 : Int32)).2 (f_Mdl_is T (32 : Int32))).1 (f_Mdl_is T (32 : Int32)))) := by
  have e : f_Mdl_arithmetic T (221 : Int32) = if (f_Mdl_find T (29 : Int32)).1 = (0 : Int32) then (((0 : Int32), (f_Mdl_find T (29 : Int32)).2)) else (((1 : Int32), (f_Mdl_compare (f_Mdl_load (f_Mdl_find T (29 : Int32)).2 (f_Mdl_is T (32 : Int32))).2 (f_Mdl_accumulator (f_Mdl_load (f_Mdl_find T (29 : Int32)).2 (f_Mdl_is T (32 : Int32))).2) (f_Mdl_load (f_Mdl_find T (29 : Int32)).2 (f_Mdl_is T (32 : Int32))).1 (f_Mdl_is T (32 : Int32))))) := rfl
  rw [e, fd1_29, if_neg (by decide : ¬ (1 : Int32) = 0)]
theorem o_DD {S T : Sc} (h : RR S T) : KO (f_Prc_useAccumulator S (221 : Int32)) (f_Mdl_arithmetic T (221 : Int32)) := by
  rw [ec_DD, em_DD]
  obtain ⟨f1, f2, f3, f4⟩ := sp_29 h
  obtain ⟨l1, l2, l3⟩ := s_load f2 f3 (WN_A h)
  have lf := (fr_rv (S := (f_Opd_place S 29).2) (c := (f_Opd_place S 29).1) (WN_A h)).trans f4
  have hw := WN_fr h lf
  exact ⟨rfl, rfl, s_cmp2 l3 (WN_A h) (acc_eq l3) l1⟩
theorem ec_DF (S : Sc) : f_Prc_useAccumulator S (223 : Int32) = ((1 : Int32), (f_Prc_compare (f_Bus_readValue (f_Opd_place S (31 : Int32)).2 (f_Opd_place S (31 : Int32)).1 (f_Reg_wideA S)).2 (f_Reg_a (f_Bus_readValue (f_Opd_place S (31 : Int32)).2 (f_Opd_place S (31 : Int32)).1 (f_Reg_wideA S)).2) (f_Bus_readValue (f_Opd_place S (31 : Int32)).2 (f_Opd_place S (31 : Int32)).1 (f_Reg_wideA S)).1 (f_Reg_wideA S))) := rfl
theorem em_DF (T : Sc) : f_Mdl_arithmetic T (223 : Int32) = ((1 : Int32), (f_Mdl_compare (f_Mdl_load (f_Mdl_find T (31 : Int32)).2 (f_Mdl_is T (32 : Int32))).2 (f_Mdl_accumulator (f_Mdl_load (f_Mdl_find T (31 : Int32)).2 (f_Mdl_is T (32 : Int32))).2) (f_Mdl_load (f_Mdl_find T (31 : Int32)).2 (f_Mdl_is T (32 : Int32))).1 (f_Mdl_is T (32 : Int32)))) := by
  have e : f_Mdl_arithmetic T (223 : Int32) = if (f_Mdl_find T (31 : Int32)).1 = (0 : Int32) then (((0 : Int32), (f_Mdl_find T (31 : Int32)).2)) else (((1 : Int32), (f_Mdl_compare (f_Mdl_load (f_Mdl_find T (31 : Int32)).2 (f_Mdl_is T (32 : Int32))).2 (f_Mdl_accumulator (f_Mdl_load (f_Mdl_find T (31 : Int32)).2 (f_Mdl_is T (32 : Int32))).2) (f_Mdl_load (f_Mdl_find T (31 : Int32)).2 (f_Mdl_is T (32 : Int32))).1 (f_Mdl_is T (32 : Int32))))) := rfl
  rw [e, fd1_31, if_neg (by decide : ¬ (1 : Int32) = 0)]
theorem o_DF {S T : Sc} (h : RR S T) : KO (f_Prc_useAccumulator S (223 : Int32)) (f_Mdl_arithmetic T (223 : Int32)) := by
  rw [ec_DF, em_DF]
  obtain ⟨f1, f2, f3, f4⟩ := sp_31 h
  obtain ⟨l1, l2, l3⟩ := s_load f2 f3 (WN_A h)
  have lf := (fr_rv (S := (f_Opd_place S 31).2) (c := (f_Opd_place S 31).1) (WN_A h)).trans f4
  have hw := WN_fr h lf
  exact ⟨rfl, rfl, s_cmp2 l3 (WN_A h) (acc_eq l3) l1⟩
theorem ec_E0 (S : Sc) : f_Prc_useIndex S (224 : Int32) = ((1 : Int32), (f_Prc_compare (f_Opd_nextValue S (f_Reg_wideIndex S)).2 (S.1 1) (f_Opd_nextValue S (f_Reg_wideIndex S)).1 (f_Reg_wideIndex S))) := rfl
theorem em_E0 (T : Sc) : f_Mdl_index T (224 : Int32) = ((1 : Int32), (f_Mdl_compare (f_Mdl_immediate T (f_Mdl_is T (16 : Int32))).2 (T.1 1) (f_Mdl_immediate T (f_Mdl_is T (16 : Int32))).1 (f_Mdl_is T (16 : Int32)))) := rfl
theorem o_E0 {S T : Sc} (h : RR S T) : KO (f_Prc_useIndex S (224 : Int32)) (f_Mdl_index T (224 : Int32)) := by
  rw [ec_E0, em_E0]
  obtain ⟨l1, l2, l3⟩ := s_nv h (WN_I h)
  exact ⟨rfl, rfl, s_cmp2 l3 (WN_I h) (RRe_1 h) l1⟩
theorem ec_E1 (S : Sc) : f_Prc_useAccumulator S (225 : Int32) = ((1 : Int32), (f_Prc_addToA (f_Bus_readValue (f_Opd_place S (1 : Int32)).2 (f_Opd_place S (1 : Int32)).1 (f_Reg_wideA S)).2 (((f_Bus_readValue (f_Opd_place S (1 : Int32)).2 (f_Opd_place S (1 : Int32)).1 (f_Reg_wideA S)).1 ^^^ (-1 : Int32)) &&& (f_Reg_maskOf (f_Reg_wideA S))))) := rfl
theorem em_E1 (T : Sc) : f_Mdl_arithmetic T (225 : Int32) = ((1 : Int32), (f_Mdl_add (f_Mdl_load (f_Mdl_find T (1 : Int32)).2 (f_Mdl_is T (32 : Int32))).2 (f_Mdl_cut ((f_Mdl_load (f_Mdl_find T (1 : Int32)).2 (f_Mdl_is T (32 : Int32))).1 ^^^ (-1 : Int32)) (f_Mdl_is T (32 : Int32))))) := by
  have e : f_Mdl_arithmetic T (225 : Int32) = if (f_Mdl_find T (1 : Int32)).1 = (0 : Int32) then (((0 : Int32), (f_Mdl_find T (1 : Int32)).2)) else (((1 : Int32), (f_Mdl_add (f_Mdl_load (f_Mdl_find T (1 : Int32)).2 (f_Mdl_is T (32 : Int32))).2 (f_Mdl_cut ((f_Mdl_load (f_Mdl_find T (1 : Int32)).2 (f_Mdl_is T (32 : Int32))).1 ^^^ (-1 : Int32)) (f_Mdl_is T (32 : Int32)))))) := rfl
  rw [e, fd1_1, if_neg (by decide : ¬ (1 : Int32) = 0)]
theorem o_E1 {S T : Sc} (h : RR S T) : KO (f_Prc_useAccumulator S (225 : Int32)) (f_Mdl_arithmetic T (225 : Int32)) := by
  rw [ec_E1, em_E1]
  obtain ⟨f1, f2, f3, f4⟩ := sp_1 h
  obtain ⟨l1, l2, l3⟩ := s_load f2 f3 (WN_A h)
  have lf := (fr_rv (S := (f_Opd_place S 1).2) (c := (f_Opd_place S 1).1) (WN_A h)).trans f4
  have hw := WN_fr h lf
  refine ⟨rfl, rfl, s_add2 l3 ?_⟩
  rw [l1]
  exact msk_cut (WN_A h) _
theorem ec_E2 (S : Sc) : f_Prc_changeFlags S (226 : Int32) = ((1 : Int32), (f_Reg_replaceP (f_Opd_nextByte S).2 ((S.1 8) ||| (f_Opd_nextByte S).1))) := rfl
theorem em_E2 (T : Sc) : f_Mdl_other T (226 : Int32) = ((1 : Int32), (f_Mdl_setFlags (f_Mdl_next T).2 ((T.1 6) ||| (f_Mdl_next T).1))) := rfl
theorem o_E2 {S T : Sc} (h : RR S T) : KO (f_Prc_changeFlags S (226 : Int32)) (f_Mdl_other T (226 : Int32)) := by
  rw [ec_E2, em_E2]
  obtain ⟨a1, a2, a3⟩ := s_next h
  exact ⟨rfl, rfl, s_setP a3 (by rw [← a1, ← RRe_8 h]; exact (r8_or (RRr_8 h) a2).symm)⟩
theorem ec_E3 (S : Sc) : f_Prc_useAccumulator S (227 : Int32) = ((1 : Int32), (f_Prc_addToA (f_Bus_readValue (f_Opd_place S (3 : Int32)).2 (f_Opd_place S (3 : Int32)).1 (f_Reg_wideA S)).2 (((f_Bus_readValue (f_Opd_place S (3 : Int32)).2 (f_Opd_place S (3 : Int32)).1 (f_Reg_wideA S)).1 ^^^ (-1 : Int32)) &&& (f_Reg_maskOf (f_Reg_wideA S))))) := rfl
theorem em_E3 (T : Sc) : f_Mdl_arithmetic T (227 : Int32) = ((1 : Int32), (f_Mdl_add (f_Mdl_load (f_Mdl_find T (3 : Int32)).2 (f_Mdl_is T (32 : Int32))).2 (f_Mdl_cut ((f_Mdl_load (f_Mdl_find T (3 : Int32)).2 (f_Mdl_is T (32 : Int32))).1 ^^^ (-1 : Int32)) (f_Mdl_is T (32 : Int32))))) := by
  have e : f_Mdl_arithmetic T (227 : Int32) = if (f_Mdl_find T (3 : Int32)).1 = (0 : Int32) then (((0 : Int32), (f_Mdl_find T (3 : Int32)).2)) else (((1 : Int32), (f_Mdl_add (f_Mdl_load (f_Mdl_find T (3 : Int32)).2 (f_Mdl_is T (32 : Int32))).2 (f_Mdl_cut ((f_Mdl_load (f_Mdl_find T (3 : Int32)).2 (f_Mdl_is T (32 : Int32))).1 ^^^ (-1 : Int32)) (f_Mdl_is T (32 : Int32)))))) := rfl
  rw [e, fd1_3, if_neg (by decide : ¬ (1 : Int32) = 0)]
theorem o_E3 {S T : Sc} (h : RR S T) : KO (f_Prc_useAccumulator S (227 : Int32)) (f_Mdl_arithmetic T (227 : Int32)) := by
  rw [ec_E3, em_E3]
  obtain ⟨f1, f2, f3, f4⟩ := sp_3 h
  obtain ⟨l1, l2, l3⟩ := s_load f2 f3 (WN_A h)
  have lf := (fr_rv (S := (f_Opd_place S 3).2) (c := (f_Opd_place S 3).1) (WN_A h)).trans f4
  have hw := WN_fr h lf
  refine ⟨rfl, rfl, s_add2 l3 ?_⟩
  rw [l1]
  exact msk_cut (WN_A h) _
theorem ec_E5 (S : Sc) : f_Prc_useAccumulator S (229 : Int32) = ((1 : Int32), (f_Prc_addToA (f_Bus_readValue (f_Opd_place S (5 : Int32)).2 (f_Opd_place S (5 : Int32)).1 (f_Reg_wideA S)).2 (((f_Bus_readValue (f_Opd_place S (5 : Int32)).2 (f_Opd_place S (5 : Int32)).1 (f_Reg_wideA S)).1 ^^^ (-1 : Int32)) &&& (f_Reg_maskOf (f_Reg_wideA S))))) := rfl
theorem em_E5 (T : Sc) : f_Mdl_arithmetic T (229 : Int32) = ((1 : Int32), (f_Mdl_add (f_Mdl_load (f_Mdl_find T (5 : Int32)).2 (f_Mdl_is T (32 : Int32))).2 (f_Mdl_cut ((f_Mdl_load (f_Mdl_find T (5 : Int32)).2 (f_Mdl_is T (32 : Int32))).1 ^^^ (-1 : Int32)) (f_Mdl_is T (32 : Int32))))) := by
  have e : f_Mdl_arithmetic T (229 : Int32) = if (f_Mdl_find T (5 : Int32)).1 = (0 : Int32) then (((0 : Int32), (f_Mdl_find T (5 : Int32)).2)) else (((1 : Int32), (f_Mdl_add (f_Mdl_load (f_Mdl_find T (5 : Int32)).2 (f_Mdl_is T (32 : Int32))).2 (f_Mdl_cut ((f_Mdl_load (f_Mdl_find T (5 : Int32)).2 (f_Mdl_is T (32 : Int32))).1 ^^^ (-1 : Int32)) (f_Mdl_is T (32 : Int32)))))) := rfl
  rw [e, fd1_5, if_neg (by decide : ¬ (1 : Int32) = 0)]
theorem o_E5 {S T : Sc} (h : RR S T) : KO (f_Prc_useAccumulator S (229 : Int32)) (f_Mdl_arithmetic T (229 : Int32)) := by
  rw [ec_E5, em_E5]
  obtain ⟨f1, f2, f3, f4⟩ := sp_5 h
  obtain ⟨l1, l2, l3⟩ := s_load f2 f3 (WN_A h)
  have lf := (fr_rv (S := (f_Opd_place S 5).2) (c := (f_Opd_place S 5).1) (WN_A h)).trans f4
  have hw := WN_fr h lf
  refine ⟨rfl, rfl, s_add2 l3 ?_⟩
  rw [l1]
  exact msk_cut (WN_A h) _
theorem ec_E6 (S : Sc) : f_Prc_changeMemory S (230 : Int32) = ((1 : Int32), (f_Bus_writeValue (f_Reg_showResult (f_Prc_changed (f_Bus_readValue (f_Opd_place S (5 : Int32)).2 (f_Opd_place S (5 : Int32)).1 (f_Reg_wideA S)).2 (7 : Int32) (f_Bus_readValue (f_Opd_place S (5 : Int32)).2 (f_Opd_place S (5 : Int32)).1 (f_Reg_wideA S)).1 (f_Reg_wideA S)).2 (f_Prc_changed (f_Bus_readValue (f_Opd_place S (5 : Int32)).2 (f_Opd_place S (5 : Int32)).1 (f_Reg_wideA S)).2 (7 : Int32) (f_Bus_readValue (f_Opd_place S (5 : Int32)).2 (f_Opd_place S (5 : Int32)).1 (f_Reg_wideA S)).1 (f_Reg_wideA S)).1 (f_Reg_wideA S)) (f_Opd_place S (5 : Int32)).1 (f_Prc_changed (f_Bus_readValue (f_Opd_place S (5 : Int32)).2 (f_Opd_place S (5 : Int32)).1 (f_Reg_wideA S)).2 (7 : Int32) (f_Bus_readValue (f_Opd_place S (5 : Int32)).2 (f_Opd_place S (5 : Int32)).1 (f_Reg_wideA S)).1 (f_Reg_wideA S)).1 (f_Reg_wideA S))) := rfl
theorem em_E6 (T : Sc) : f_Mdl_change T (230 : Int32) = ((1 : Int32), (f_Mdl_changeMemory T (0 : Int32) (0 : Int32))) := rfl
theorem o_E6 {S T : Sc} (h : RR S T) : KO (f_Prc_changeMemory S (230 : Int32)) (f_Mdl_change T (230 : Int32)) := by
  rw [ec_E6, em_E6]
  exact ⟨rfl, rfl, s_cm h 5 0 (Or.inl ⟨rfl, rfl⟩) (cm0 T 0) (fun {S T : Sc} {v w n : Int32} => sc_7)⟩
theorem ec_E7 (S : Sc) : f_Prc_useAccumulator S (231 : Int32) = ((1 : Int32), (f_Prc_addToA (f_Bus_readValue (f_Opd_place S (7 : Int32)).2 (f_Opd_place S (7 : Int32)).1 (f_Reg_wideA S)).2 (((f_Bus_readValue (f_Opd_place S (7 : Int32)).2 (f_Opd_place S (7 : Int32)).1 (f_Reg_wideA S)).1 ^^^ (-1 : Int32)) &&& (f_Reg_maskOf (f_Reg_wideA S))))) := rfl
theorem em_E7 (T : Sc) : f_Mdl_arithmetic T (231 : Int32) = ((1 : Int32), (f_Mdl_add (f_Mdl_load (f_Mdl_find T (7 : Int32)).2 (f_Mdl_is T (32 : Int32))).2 (f_Mdl_cut ((f_Mdl_load (f_Mdl_find T (7 : Int32)).2 (f_Mdl_is T (32 : Int32))).1 ^^^ (-1 : Int32)) (f_Mdl_is T (32 : Int32))))) := by
  have e : f_Mdl_arithmetic T (231 : Int32) = if (f_Mdl_find T (7 : Int32)).1 = (0 : Int32) then (((0 : Int32), (f_Mdl_find T (7 : Int32)).2)) else (((1 : Int32), (f_Mdl_add (f_Mdl_load (f_Mdl_find T (7 : Int32)).2 (f_Mdl_is T (32 : Int32))).2 (f_Mdl_cut ((f_Mdl_load (f_Mdl_find T (7 : Int32)).2 (f_Mdl_is T (32 : Int32))).1 ^^^ (-1 : Int32)) (f_Mdl_is T (32 : Int32)))))) := rfl
  rw [e, fd1_7, if_neg (by decide : ¬ (1 : Int32) = 0)]
theorem o_E7 {S T : Sc} (h : RR S T) : KO (f_Prc_useAccumulator S (231 : Int32)) (f_Mdl_arithmetic T (231 : Int32)) := by
  rw [ec_E7, em_E7]
  obtain ⟨f1, f2, f3, f4⟩ := sp_7 h
  obtain ⟨l1, l2, l3⟩ := s_load f2 f3 (WN_A h)
  have lf := (fr_rv (S := (f_Opd_place S 7).2) (c := (f_Opd_place S 7).1) (WN_A h)).trans f4
  have hw := WN_fr h lf
  refine ⟨rfl, rfl, s_add2 l3 ?_⟩
  rw [l1]
  exact msk_cut (WN_A h) _
theorem ec_E8 (S : Sc) : f_Prc_changeRegister S (232 : Int32) = ((1 : Int32), (f_Reg_loadX S ((S.1 1) + (1 : Int32)))) := rfl
theorem em_E8 (T : Sc) : f_Mdl_index T (232 : Int32) = ((1 : Int32), (pr (f_Mdl_result T ((T.1 1) + (1 : Int32)) (f_Mdl_is T (16 : Int32))).2 1 ((f_Mdl_result T ((T.1 1) + (1 : Int32)) (f_Mdl_is T (16 : Int32))).1))) := rfl
theorem o_E8 {S T : Sc} (h : RR S T) : KO (f_Prc_changeRegister S (232 : Int32)) (f_Mdl_index T (232 : Int32)) := by
  rw [ec_E8, em_E8]
  exact ⟨rfl, rfl, s_loadX2 h (WN_I h) (by rw [RRe_1 h])⟩
theorem ec_E9 (S : Sc) : f_Prc_useAccumulator S (233 : Int32) = ((1 : Int32), (f_Prc_addToA (f_Opd_nextValue S (f_Reg_wideA S)).2 (((f_Opd_nextValue S (f_Reg_wideA S)).1 ^^^ (-1 : Int32)) &&& (f_Reg_maskOf (f_Reg_wideA S))))) := rfl
theorem em_E9 (T : Sc) : f_Mdl_arithmetic T (233 : Int32) = ((1 : Int32), (f_Mdl_add (f_Mdl_immediate T (f_Mdl_is T (32 : Int32))).2 (f_Mdl_cut ((f_Mdl_immediate T (f_Mdl_is T (32 : Int32))).1 ^^^ (-1 : Int32)) (f_Mdl_is T (32 : Int32))))) := rfl
theorem o_E9 {S T : Sc} (h : RR S T) : KO (f_Prc_useAccumulator S (233 : Int32)) (f_Mdl_arithmetic T (233 : Int32)) := by
  rw [ec_E9, em_E9]
  obtain ⟨l1, l2, l3⟩ := s_nv h (WN_A h)
  have lf := fr_nv (S := S) (WN_A h)
  have hw := WN_fr h lf
  refine ⟨rfl, rfl, s_add2 l3 ?_⟩
  rw [l1]
  exact msk_cut (WN_A h) _
theorem ec_EA (S : Sc) : f_Prc_changeFlags S (234 : Int32) = ((1 : Int32), S) := rfl
theorem em_EA (T : Sc) : f_Mdl_other T (234 : Int32) = ((1 : Int32), T) := rfl
theorem o_EA {S T : Sc} (h : RR S T) : KO (f_Prc_changeFlags S (234 : Int32)) (f_Mdl_other T (234 : Int32)) := by
  rw [ec_EA, em_EA]
  exact ⟨rfl, rfl, h⟩
theorem ec_EB (S : Sc) : f_Prc_transfer S (235 : Int32) = ((1 : Int32), (f_Reg_showResult (pr S 0 ((((S.1 0) >>> ((8 : Int32) &&& 31)) ||| (((S.1 0) &&& (255 : Int32)) <<< ((8 : Int32) &&& 31))))) ((((S.1 0) >>> ((8 : Int32) &&& 31)) ||| (((S.1 0) &&& (255 : Int32)) <<< ((8 : Int32) &&& 31))) &&& (255 : Int32)) (0 : Int32))) := rfl
theorem em_EB (T : Sc) : f_Mdl_transfer T (235 : Int32) = ((1 : Int32), (f_Mdl_result (pr T 0 ((((T.1 0) >>> ((8 : Int32) &&& 31)) ||| (((T.1 0) &&& (255 : Int32)) <<< ((8 : Int32) &&& 31))))) (((T.1 0) >>> ((8 : Int32) &&& 31)) ||| (((T.1 0) &&& (255 : Int32)) <<< ((8 : Int32) &&& 31))) (1 : Int32)).2) := rfl
theorem o_EB {S T : Sc} (h : RR S T) : KO (f_Prc_transfer S (235 : Int32)) (f_Mdl_transfer T (235 : Int32)) := by
  rw [ec_EB, em_EB]
  have h1 := R_0 (v := (S.1 0 >>> ((8 : Int32) &&& 31)) ||| ((S.1 0 &&& 255) <<< ((8 : Int32) &&& 31))) (v2 := (T.1 0 >>> ((8 : Int32) &&& 31)) ||| ((T.1 0 &&& 255) <<< ((8 : Int32) &&& 31))) h (by rw [RRe_0 h]) (xba (RRr_0 h))
  have k := s_show (v := (S.1 0 >>> ((8 : Int32) &&& 31)) ||| ((S.1 0 &&& 255) <<< ((8 : Int32) &&& 31))) h1 WN_0
  refine ⟨rfl, rfl, ?_⟩
  have k2 := k.2
  rw [RRe_0 h] at k2
  show RR (f_Reg_showResult (pr S 0 ((S.1 0 >>> ((8 : Int32) &&& 31)) ||| ((S.1 0 &&& 255) <<< ((8 : Int32) &&& 31)))) (((S.1 0 >>> ((8 : Int32) &&& 31)) ||| ((S.1 0 &&& 255) <<< ((8 : Int32) &&& 31))) &&& 255) 0) _
  rw [RRe_0 h]; exact k2
theorem ec_ED (S : Sc) : f_Prc_useAccumulator S (237 : Int32) = ((1 : Int32), (f_Prc_addToA (f_Bus_readValue (f_Opd_place S (13 : Int32)).2 (f_Opd_place S (13 : Int32)).1 (f_Reg_wideA S)).2 (((f_Bus_readValue (f_Opd_place S (13 : Int32)).2 (f_Opd_place S (13 : Int32)).1 (f_Reg_wideA S)).1 ^^^ (-1 : Int32)) &&& (f_Reg_maskOf (f_Reg_wideA S))))) := rfl
theorem em_ED (T : Sc) : f_Mdl_arithmetic T (237 : Int32) = ((1 : Int32), (f_Mdl_add (f_Mdl_load (f_Mdl_find T (13 : Int32)).2 (f_Mdl_is T (32 : Int32))).2 (f_Mdl_cut ((f_Mdl_load (f_Mdl_find T (13 : Int32)).2 (f_Mdl_is T (32 : Int32))).1 ^^^ (-1 : Int32)) (f_Mdl_is T (32 : Int32))))) := by
  have e : f_Mdl_arithmetic T (237 : Int32) = if (f_Mdl_find T (13 : Int32)).1 = (0 : Int32) then (((0 : Int32), (f_Mdl_find T (13 : Int32)).2)) else (((1 : Int32), (f_Mdl_add (f_Mdl_load (f_Mdl_find T (13 : Int32)).2 (f_Mdl_is T (32 : Int32))).2 (f_Mdl_cut ((f_Mdl_load (f_Mdl_find T (13 : Int32)).2 (f_Mdl_is T (32 : Int32))).1 ^^^ (-1 : Int32)) (f_Mdl_is T (32 : Int32)))))) := rfl
  rw [e, fd1_13, if_neg (by decide : ¬ (1 : Int32) = 0)]
theorem o_ED {S T : Sc} (h : RR S T) : KO (f_Prc_useAccumulator S (237 : Int32)) (f_Mdl_arithmetic T (237 : Int32)) := by
  rw [ec_ED, em_ED]
  obtain ⟨f1, f2, f3, f4⟩ := sp_13 h
  obtain ⟨l1, l2, l3⟩ := s_load f2 f3 (WN_A h)
  have lf := (fr_rv (S := (f_Opd_place S 13).2) (c := (f_Opd_place S 13).1) (WN_A h)).trans f4
  have hw := WN_fr h lf
  refine ⟨rfl, rfl, s_add2 l3 ?_⟩
  rw [l1]
  exact msk_cut (WN_A h) _
theorem ec_EE (S : Sc) : f_Prc_changeMemory S (238 : Int32) = ((1 : Int32), (f_Bus_writeValue (f_Reg_showResult (f_Prc_changed (f_Bus_readValue (f_Opd_place S (13 : Int32)).2 (f_Opd_place S (13 : Int32)).1 (f_Reg_wideA S)).2 (7 : Int32) (f_Bus_readValue (f_Opd_place S (13 : Int32)).2 (f_Opd_place S (13 : Int32)).1 (f_Reg_wideA S)).1 (f_Reg_wideA S)).2 (f_Prc_changed (f_Bus_readValue (f_Opd_place S (13 : Int32)).2 (f_Opd_place S (13 : Int32)).1 (f_Reg_wideA S)).2 (7 : Int32) (f_Bus_readValue (f_Opd_place S (13 : Int32)).2 (f_Opd_place S (13 : Int32)).1 (f_Reg_wideA S)).1 (f_Reg_wideA S)).1 (f_Reg_wideA S)) (f_Opd_place S (13 : Int32)).1 (f_Prc_changed (f_Bus_readValue (f_Opd_place S (13 : Int32)).2 (f_Opd_place S (13 : Int32)).1 (f_Reg_wideA S)).2 (7 : Int32) (f_Bus_readValue (f_Opd_place S (13 : Int32)).2 (f_Opd_place S (13 : Int32)).1 (f_Reg_wideA S)).1 (f_Reg_wideA S)).1 (f_Reg_wideA S))) := rfl
theorem em_EE (T : Sc) : f_Mdl_change T (238 : Int32) = ((1 : Int32), (f_Mdl_changeMemory T (0 : Int32) (1 : Int32))) := rfl
theorem o_EE {S T : Sc} (h : RR S T) : KO (f_Prc_changeMemory S (238 : Int32)) (f_Mdl_change T (238 : Int32)) := by
  rw [ec_EE, em_EE]
  exact ⟨rfl, rfl, s_cm h 13 1 (Or.inr ⟨rfl, rfl⟩) (cm1 T 0) (fun {S T : Sc} {v w n : Int32} => sc_7)⟩
theorem ec_EF (S : Sc) : f_Prc_useAccumulator S (239 : Int32) = ((1 : Int32), (f_Prc_addToA (f_Bus_readValue (f_Opd_place S (15 : Int32)).2 (f_Opd_place S (15 : Int32)).1 (f_Reg_wideA S)).2 (((f_Bus_readValue (f_Opd_place S (15 : Int32)).2 (f_Opd_place S (15 : Int32)).1 (f_Reg_wideA S)).1 ^^^ (-1 : Int32)) &&& (f_Reg_maskOf (f_Reg_wideA S))))) := rfl
theorem em_EF (T : Sc) : f_Mdl_arithmetic T (239 : Int32) = ((1 : Int32), (f_Mdl_add (f_Mdl_load (f_Mdl_find T (15 : Int32)).2 (f_Mdl_is T (32 : Int32))).2 (f_Mdl_cut ((f_Mdl_load (f_Mdl_find T (15 : Int32)).2 (f_Mdl_is T (32 : Int32))).1 ^^^ (-1 : Int32)) (f_Mdl_is T (32 : Int32))))) := by
  have e : f_Mdl_arithmetic T (239 : Int32) = if (f_Mdl_find T (15 : Int32)).1 = (0 : Int32) then (((0 : Int32), (f_Mdl_find T (15 : Int32)).2)) else (((1 : Int32), (f_Mdl_add (f_Mdl_load (f_Mdl_find T (15 : Int32)).2 (f_Mdl_is T (32 : Int32))).2 (f_Mdl_cut ((f_Mdl_load (f_Mdl_find T (15 : Int32)).2 (f_Mdl_is T (32 : Int32))).1 ^^^ (-1 : Int32)) (f_Mdl_is T (32 : Int32)))))) := rfl
  rw [e, fd1_15, if_neg (by decide : ¬ (1 : Int32) = 0)]
theorem o_EF {S T : Sc} (h : RR S T) : KO (f_Prc_useAccumulator S (239 : Int32)) (f_Mdl_arithmetic T (239 : Int32)) := by
  rw [ec_EF, em_EF]
  obtain ⟨f1, f2, f3, f4⟩ := sp_15 h
  obtain ⟨l1, l2, l3⟩ := s_load f2 f3 (WN_A h)
  have lf := (fr_rv (S := (f_Opd_place S 15).2) (c := (f_Opd_place S 15).1) (WN_A h)).trans f4
  have hw := WN_fr h lf
  refine ⟨rfl, rfl, s_add2 l3 ?_⟩
  rw [l1]
  exact msk_cut (WN_A h) _
theorem ec_F0 (S : Sc) : f_Prc_branch S (240 : Int32) = if (f_Reg_has (f_Opd_nextByte S).2 (bf ((3 : Int32)).toNatClampNeg)) = (1 : Int32) then (((1 : Int32), (f_Reg_jumpTo (f_Opd_nextByte S).2 (((f_Opd_nextByte S).2.1 7) + (((f_Opd_nextByte S).1).toInt8.toInt32))))) else (((1 : Int32), (f_Opd_nextByte S).2)) := rfl
theorem em_F0 (T : Sc) : f_Mdl_jump T (240 : Int32) = ((1 : Int32), (f_Mdl_branch T (f_Mdl_is T (2 : Int32)))) := rfl
theorem o_F0 {S T : Sc} (h : RR S T) : KO (f_Prc_branch S (240 : Int32)) (f_Mdl_jump T (240 : Int32)) := by
  rw [ec_F0, em_F0]
  have e : f_Reg_has (f_Opd_nextByte S).2 (2 : Int32) = f_Mdl_is T (2 : Int32) := has_n h (2 : Int32)
  have eb : bf (3 : Int32).toNatClampNeg = (2 : Int32) := rfl
  rw [eb, e]
  have b := s_br (x := f_Mdl_is T 2) h
  by_cases z : f_Mdl_is T (2 : Int32) = (1 : Int32)
  · rw [if_pos z]; exact ⟨rfl, rfl, b.1 (by rw [z]; decide)⟩
  · rw [if_neg z]; exact ⟨rfl, rfl, b.2 (is_01 z)⟩
theorem ec_F1 (S : Sc) : f_Prc_useAccumulator S (241 : Int32) = ((1 : Int32), (f_Prc_addToA (f_Bus_readValue (f_Opd_place S (17 : Int32)).2 (f_Opd_place S (17 : Int32)).1 (f_Reg_wideA S)).2 (((f_Bus_readValue (f_Opd_place S (17 : Int32)).2 (f_Opd_place S (17 : Int32)).1 (f_Reg_wideA S)).1 ^^^ (-1 : Int32)) &&& (f_Reg_maskOf (f_Reg_wideA S))))) := rfl
theorem em_F1 (T : Sc) : f_Mdl_arithmetic T (241 : Int32) = ((1 : Int32), (f_Mdl_add (f_Mdl_load (f_Mdl_find T (17 : Int32)).2 (f_Mdl_is T (32 : Int32))).2 (f_Mdl_cut ((f_Mdl_load (f_Mdl_find T (17 : Int32)).2 (f_Mdl_is T (32 : Int32))).1 ^^^ (-1 : Int32)) (f_Mdl_is T (32 : Int32))))) := by
  have e : f_Mdl_arithmetic T (241 : Int32) = if (f_Mdl_find T (17 : Int32)).1 = (0 : Int32) then (((0 : Int32), (f_Mdl_find T (17 : Int32)).2)) else (((1 : Int32), (f_Mdl_add (f_Mdl_load (f_Mdl_find T (17 : Int32)).2 (f_Mdl_is T (32 : Int32))).2 (f_Mdl_cut ((f_Mdl_load (f_Mdl_find T (17 : Int32)).2 (f_Mdl_is T (32 : Int32))).1 ^^^ (-1 : Int32)) (f_Mdl_is T (32 : Int32)))))) := rfl
  rw [e, fd1_17, if_neg (by decide : ¬ (1 : Int32) = 0)]
theorem o_F1 {S T : Sc} (h : RR S T) : KO (f_Prc_useAccumulator S (241 : Int32)) (f_Mdl_arithmetic T (241 : Int32)) := by
  rw [ec_F1, em_F1]
  obtain ⟨f1, f2, f3, f4⟩ := sp_17 h
  obtain ⟨l1, l2, l3⟩ := s_load f2 f3 (WN_A h)
  have lf := (fr_rv (S := (f_Opd_place S 17).2) (c := (f_Opd_place S 17).1) (WN_A h)).trans f4
  have hw := WN_fr h lf
  refine ⟨rfl, rfl, s_add2 l3 ?_⟩
  rw [l1]
  exact msk_cut (WN_A h) _
theorem ec_F2 (S : Sc) : f_Prc_useAccumulator S (242 : Int32) = ((1 : Int32), (f_Prc_addToA (f_Bus_readValue (f_Opd_place S (18 : Int32)).2 (f_Opd_place S (18 : Int32)).1 (f_Reg_wideA S)).2 (((f_Bus_readValue (f_Opd_place S (18 : Int32)).2 (f_Opd_place S (18 : Int32)).1 (f_Reg_wideA S)).1 ^^^ (-1 : Int32)) &&& (f_Reg_maskOf (f_Reg_wideA S))))) := rfl
theorem em_F2 (T : Sc) : f_Mdl_arithmetic T (242 : Int32) = ((1 : Int32), (f_Mdl_add (f_Mdl_load (f_Mdl_find T (18 : Int32)).2 (f_Mdl_is T (32 : Int32))).2 (f_Mdl_cut ((f_Mdl_load (f_Mdl_find T (18 : Int32)).2 (f_Mdl_is T (32 : Int32))).1 ^^^ (-1 : Int32)) (f_Mdl_is T (32 : Int32))))) := by
  have e : f_Mdl_arithmetic T (242 : Int32) = if (f_Mdl_find T (18 : Int32)).1 = (0 : Int32) then (((0 : Int32), (f_Mdl_find T (18 : Int32)).2)) else (((1 : Int32), (f_Mdl_add (f_Mdl_load (f_Mdl_find T (18 : Int32)).2 (f_Mdl_is T (32 : Int32))).2 (f_Mdl_cut ((f_Mdl_load (f_Mdl_find T (18 : Int32)).2 (f_Mdl_is T (32 : Int32))).1 ^^^ (-1 : Int32)) (f_Mdl_is T (32 : Int32)))))) := rfl
  rw [e, fd1_18, if_neg (by decide : ¬ (1 : Int32) = 0)]
theorem o_F2 {S T : Sc} (h : RR S T) : KO (f_Prc_useAccumulator S (242 : Int32)) (f_Mdl_arithmetic T (242 : Int32)) := by
  rw [ec_F2, em_F2]
  obtain ⟨f1, f2, f3, f4⟩ := sp_18 h
  obtain ⟨l1, l2, l3⟩ := s_load f2 f3 (WN_A h)
  have lf := (fr_rv (S := (f_Opd_place S 18).2) (c := (f_Opd_place S 18).1) (WN_A h)).trans f4
  have hw := WN_fr h lf
  refine ⟨rfl, rfl, s_add2 l3 ?_⟩
  rw [l1]
  exact msk_cut (WN_A h) _
theorem ec_F3 (S : Sc) : f_Prc_useAccumulator S (243 : Int32) = ((1 : Int32), (f_Prc_addToA (f_Bus_readValue (f_Opd_place S (19 : Int32)).2 (f_Opd_place S (19 : Int32)).1 (f_Reg_wideA S)).2 (((f_Bus_readValue (f_Opd_place S (19 : Int32)).2 (f_Opd_place S (19 : Int32)).1 (f_Reg_wideA S)).1 ^^^ (-1 : Int32)) &&& (f_Reg_maskOf (f_Reg_wideA S))))) := rfl
theorem em_F3 (T : Sc) : f_Mdl_arithmetic T (243 : Int32) = ((1 : Int32), (f_Mdl_add (f_Mdl_load (f_Mdl_find T (19 : Int32)).2 (f_Mdl_is T (32 : Int32))).2 (f_Mdl_cut ((f_Mdl_load (f_Mdl_find T (19 : Int32)).2 (f_Mdl_is T (32 : Int32))).1 ^^^ (-1 : Int32)) (f_Mdl_is T (32 : Int32))))) := by
  have e : f_Mdl_arithmetic T (243 : Int32) = if (f_Mdl_find T (19 : Int32)).1 = (0 : Int32) then (((0 : Int32), (f_Mdl_find T (19 : Int32)).2)) else (((1 : Int32), (f_Mdl_add (f_Mdl_load (f_Mdl_find T (19 : Int32)).2 (f_Mdl_is T (32 : Int32))).2 (f_Mdl_cut ((f_Mdl_load (f_Mdl_find T (19 : Int32)).2 (f_Mdl_is T (32 : Int32))).1 ^^^ (-1 : Int32)) (f_Mdl_is T (32 : Int32)))))) := rfl
  rw [e, fd1_19, if_neg (by decide : ¬ (1 : Int32) = 0)]
theorem o_F3 {S T : Sc} (h : RR S T) : KO (f_Prc_useAccumulator S (243 : Int32)) (f_Mdl_arithmetic T (243 : Int32)) := by
  rw [ec_F3, em_F3]
  obtain ⟨f1, f2, f3, f4⟩ := sp_19 h
  obtain ⟨l1, l2, l3⟩ := s_load f2 f3 (WN_A h)
  have lf := (fr_rv (S := (f_Opd_place S 19).2) (c := (f_Opd_place S 19).1) (WN_A h)).trans f4
  have hw := WN_fr h lf
  refine ⟨rfl, rfl, s_add2 l3 ?_⟩
  rw [l1]
  exact msk_cut (WN_A h) _
theorem ec_F4 (S : Sc) : f_Prc_push S (244 : Int32) = ((1 : Int32), (f_Stk_pushWord (f_Opd_nextWord S).2 (f_Opd_nextWord S).1)) := rfl
theorem em_F4 (T : Sc) : f_Mdl_stack T (244 : Int32) = ((1 : Int32), (f_Mdl_pushWord (f_Mdl_nextWord T).2 (f_Mdl_nextWord T).1)) := rfl
theorem o_F4 {S T : Sc} (h : RR S T) : KO (f_Prc_push S (244 : Int32)) (f_Mdl_stack T (244 : Int32)) := by
  rw [ec_F4, em_F4]
  obtain ⟨a1, a2, a3⟩ := s_nw h
  exact ⟨rfl, rfl, s_pushW2 a3 a1⟩
theorem ec_F5 (S : Sc) : f_Prc_useAccumulator S (245 : Int32) = ((1 : Int32), (f_Prc_addToA (f_Bus_readValue (f_Opd_place S (21 : Int32)).2 (f_Opd_place S (21 : Int32)).1 (f_Reg_wideA S)).2 (((f_Bus_readValue (f_Opd_place S (21 : Int32)).2 (f_Opd_place S (21 : Int32)).1 (f_Reg_wideA S)).1 ^^^ (-1 : Int32)) &&& (f_Reg_maskOf (f_Reg_wideA S))))) := rfl
theorem em_F5 (T : Sc) : f_Mdl_arithmetic T (245 : Int32) = ((1 : Int32), (f_Mdl_add (f_Mdl_load (f_Mdl_find T (21 : Int32)).2 (f_Mdl_is T (32 : Int32))).2 (f_Mdl_cut ((f_Mdl_load (f_Mdl_find T (21 : Int32)).2 (f_Mdl_is T (32 : Int32))).1 ^^^ (-1 : Int32)) (f_Mdl_is T (32 : Int32))))) := by
  have e : f_Mdl_arithmetic T (245 : Int32) = if (f_Mdl_find T (21 : Int32)).1 = (0 : Int32) then (((0 : Int32), (f_Mdl_find T (21 : Int32)).2)) else (((1 : Int32), (f_Mdl_add (f_Mdl_load (f_Mdl_find T (21 : Int32)).2 (f_Mdl_is T (32 : Int32))).2 (f_Mdl_cut ((f_Mdl_load (f_Mdl_find T (21 : Int32)).2 (f_Mdl_is T (32 : Int32))).1 ^^^ (-1 : Int32)) (f_Mdl_is T (32 : Int32)))))) := rfl
  rw [e, fd1_21, if_neg (by decide : ¬ (1 : Int32) = 0)]
theorem o_F5 {S T : Sc} (h : RR S T) : KO (f_Prc_useAccumulator S (245 : Int32)) (f_Mdl_arithmetic T (245 : Int32)) := by
  rw [ec_F5, em_F5]
  obtain ⟨f1, f2, f3, f4⟩ := sp_21 h
  obtain ⟨l1, l2, l3⟩ := s_load f2 f3 (WN_A h)
  have lf := (fr_rv (S := (f_Opd_place S 21).2) (c := (f_Opd_place S 21).1) (WN_A h)).trans f4
  have hw := WN_fr h lf
  refine ⟨rfl, rfl, s_add2 l3 ?_⟩
  rw [l1]
  exact msk_cut (WN_A h) _
theorem ec_F7 (S : Sc) : f_Prc_useAccumulator S (247 : Int32) = ((1 : Int32), (f_Prc_addToA (f_Bus_readValue (f_Opd_place S (23 : Int32)).2 (f_Opd_place S (23 : Int32)).1 (f_Reg_wideA S)).2 (((f_Bus_readValue (f_Opd_place S (23 : Int32)).2 (f_Opd_place S (23 : Int32)).1 (f_Reg_wideA S)).1 ^^^ (-1 : Int32)) &&& (f_Reg_maskOf (f_Reg_wideA S))))) := rfl
theorem em_F7 (T : Sc) : f_Mdl_arithmetic T (247 : Int32) = ((1 : Int32), (f_Mdl_add (f_Mdl_load (f_Mdl_find T (23 : Int32)).2 (f_Mdl_is T (32 : Int32))).2 (f_Mdl_cut ((f_Mdl_load (f_Mdl_find T (23 : Int32)).2 (f_Mdl_is T (32 : Int32))).1 ^^^ (-1 : Int32)) (f_Mdl_is T (32 : Int32))))) := by
  have e : f_Mdl_arithmetic T (247 : Int32) = if (f_Mdl_find T (23 : Int32)).1 = (0 : Int32) then (((0 : Int32), (f_Mdl_find T (23 : Int32)).2)) else (((1 : Int32), (f_Mdl_add (f_Mdl_load (f_Mdl_find T (23 : Int32)).2 (f_Mdl_is T (32 : Int32))).2 (f_Mdl_cut ((f_Mdl_load (f_Mdl_find T (23 : Int32)).2 (f_Mdl_is T (32 : Int32))).1 ^^^ (-1 : Int32)) (f_Mdl_is T (32 : Int32)))))) := rfl
  rw [e, fd1_23, if_neg (by decide : ¬ (1 : Int32) = 0)]
theorem o_F7 {S T : Sc} (h : RR S T) : KO (f_Prc_useAccumulator S (247 : Int32)) (f_Mdl_arithmetic T (247 : Int32)) := by
  rw [ec_F7, em_F7]
  obtain ⟨f1, f2, f3, f4⟩ := sp_23 h
  obtain ⟨l1, l2, l3⟩ := s_load f2 f3 (WN_A h)
  have lf := (fr_rv (S := (f_Opd_place S 23).2) (c := (f_Opd_place S 23).1) (WN_A h)).trans f4
  have hw := WN_fr h lf
  refine ⟨rfl, rfl, s_add2 l3 ?_⟩
  rw [l1]
  exact msk_cut (WN_A h) _
theorem ec_F8 (S : Sc) : f_Prc_changeFlags S (248 : Int32) = ((1 : Int32), (f_Reg_putFlag S (8 : Int32) (1 : Int32))) := rfl
theorem em_F8 (T : Sc) : f_Mdl_other T (248 : Int32) = ((1 : Int32), (f_Mdl_flag T (8 : Int32) (1 : Int32))) := rfl
theorem o_F8 {S T : Sc} (h : RR S T) : KO (f_Prc_changeFlags S (248 : Int32)) (f_Mdl_other T (248 : Int32)) := by
  rw [ec_F8, em_F8]
  exact ⟨rfl, rfl, s_flag h 8 1 (by decide)⟩
theorem ec_F9 (S : Sc) : f_Prc_useAccumulator S (249 : Int32) = ((1 : Int32), (f_Prc_addToA (f_Bus_readValue (f_Opd_place S (25 : Int32)).2 (f_Opd_place S (25 : Int32)).1 (f_Reg_wideA S)).2 (((f_Bus_readValue (f_Opd_place S (25 : Int32)).2 (f_Opd_place S (25 : Int32)).1 (f_Reg_wideA S)).1 ^^^ (-1 : Int32)) &&& (f_Reg_maskOf (f_Reg_wideA S))))) := rfl
theorem em_F9 (T : Sc) : f_Mdl_arithmetic T (249 : Int32) = ((1 : Int32), (f_Mdl_add (f_Mdl_load (f_Mdl_find T (25 : Int32)).2 (f_Mdl_is T (32 : Int32))).2 (f_Mdl_cut ((f_Mdl_load (f_Mdl_find T (25 : Int32)).2 (f_Mdl_is T (32 : Int32))).1 ^^^ (-1 : Int32)) (f_Mdl_is T (32 : Int32))))) := by
  have e : f_Mdl_arithmetic T (249 : Int32) = if (f_Mdl_find T (25 : Int32)).1 = (0 : Int32) then (((0 : Int32), (f_Mdl_find T (25 : Int32)).2)) else (((1 : Int32), (f_Mdl_add (f_Mdl_load (f_Mdl_find T (25 : Int32)).2 (f_Mdl_is T (32 : Int32))).2 (f_Mdl_cut ((f_Mdl_load (f_Mdl_find T (25 : Int32)).2 (f_Mdl_is T (32 : Int32))).1 ^^^ (-1 : Int32)) (f_Mdl_is T (32 : Int32)))))) := rfl
  rw [e, fd1_25, if_neg (by decide : ¬ (1 : Int32) = 0)]
theorem o_F9 {S T : Sc} (h : RR S T) : KO (f_Prc_useAccumulator S (249 : Int32)) (f_Mdl_arithmetic T (249 : Int32)) := by
  rw [ec_F9, em_F9]
  obtain ⟨f1, f2, f3, f4⟩ := sp_25 h
  obtain ⟨l1, l2, l3⟩ := s_load f2 f3 (WN_A h)
  have lf := (fr_rv (S := (f_Opd_place S 25).2) (c := (f_Opd_place S 25).1) (WN_A h)).trans f4
  have hw := WN_fr h lf
  refine ⟨rfl, rfl, s_add2 l3 ?_⟩
  rw [l1]
  exact msk_cut (WN_A h) _
theorem ec_FA (S : Sc) : f_Prc_pull S (250 : Int32) = ((1 : Int32), (f_Reg_loadX (f_Stk_pullValue S (f_Reg_wideIndex S)).2 (f_Stk_pullValue S (f_Reg_wideIndex S)).1)) := rfl
theorem em_FA (T : Sc) : f_Mdl_stack T (250 : Int32) = ((1 : Int32), (pr (f_Mdl_pullOf T (f_Mdl_is T (16 : Int32))).2 1 ((f_Mdl_pullOf T (f_Mdl_is T (16 : Int32))).1))) := rfl
theorem o_FA {S T : Sc} (h : RR S T) : KO (f_Prc_pull S (250 : Int32)) (f_Mdl_stack T (250 : Int32)) := by
  rw [ec_FA, em_FA]
  obtain ⟨r, T2, q1, q2, q3, q4⟩ := s_pv h (WN_I h)
  rw [q1]
  exact ⟨rfl, rfl, s_loadX2 q3 (WN_fi h q4) q2⟩
theorem ec_FD (S : Sc) : f_Prc_useAccumulator S (253 : Int32) = ((1 : Int32), (f_Prc_addToA (f_Bus_readValue (f_Opd_place S (29 : Int32)).2 (f_Opd_place S (29 : Int32)).1 (f_Reg_wideA S)).2 (((f_Bus_readValue (f_Opd_place S (29 : Int32)).2 (f_Opd_place S (29 : Int32)).1 (f_Reg_wideA S)).1 ^^^ (-1 : Int32)) &&& (f_Reg_maskOf (f_Reg_wideA S))))) := rfl
theorem em_FD (T : Sc) : f_Mdl_arithmetic T (253 : Int32) = ((1 : Int32), (f_Mdl_add (f_Mdl_load (f_Mdl_find T (29 : Int32)).2 (f_Mdl_is T (32 : Int32))).2 (f_Mdl_cut ((f_Mdl_load (f_Mdl_find T (29 : Int32)).2 (f_Mdl_is T (32 : Int32))).1 ^^^ (-1 : Int32)) (f_Mdl_is T (32 : Int32))))) := by
  have e : f_Mdl_arithmetic T (253 : Int32) = if (f_Mdl_find T (29 : Int32)).1 = (0 : Int32) then (((0 : Int32), (f_Mdl_find T (29 : Int32)).2)) else (((1 : Int32), (f_Mdl_add (f_Mdl_load (f_Mdl_find T (29 : Int32)).2 (f_Mdl_is T (32 : Int32))).2 (f_Mdl_cut ((f_Mdl_load (f_Mdl_find T (29 : Int32)).2 (f_Mdl_is T (32 : Int32))).1 ^^^ (-1 : Int32)) (f_Mdl_is T (32 : Int32)))))) := rfl
  rw [e, fd1_29, if_neg (by decide : ¬ (1 : Int32) = 0)]
theorem o_FD {S T : Sc} (h : RR S T) : KO (f_Prc_useAccumulator S (253 : Int32)) (f_Mdl_arithmetic T (253 : Int32)) := by
  rw [ec_FD, em_FD]
  obtain ⟨f1, f2, f3, f4⟩ := sp_29 h
  obtain ⟨l1, l2, l3⟩ := s_load f2 f3 (WN_A h)
  have lf := (fr_rv (S := (f_Opd_place S 29).2) (c := (f_Opd_place S 29).1) (WN_A h)).trans f4
  have hw := WN_fr h lf
  refine ⟨rfl, rfl, s_add2 l3 ?_⟩
  rw [l1]
  exact msk_cut (WN_A h) _
theorem ec_FF (S : Sc) : f_Prc_useAccumulator S (255 : Int32) = ((1 : Int32), (f_Prc_addToA (f_Bus_readValue (f_Opd_place S (31 : Int32)).2 (f_Opd_place S (31 : Int32)).1 (f_Reg_wideA S)).2 (((f_Bus_readValue (f_Opd_place S (31 : Int32)).2 (f_Opd_place S (31 : Int32)).1 (f_Reg_wideA S)).1 ^^^ (-1 : Int32)) &&& (f_Reg_maskOf (f_Reg_wideA S))))) := rfl
theorem em_FF (T : Sc) : f_Mdl_arithmetic T (255 : Int32) = ((1 : Int32), (f_Mdl_add (f_Mdl_load (f_Mdl_find T (31 : Int32)).2 (f_Mdl_is T (32 : Int32))).2 (f_Mdl_cut ((f_Mdl_load (f_Mdl_find T (31 : Int32)).2 (f_Mdl_is T (32 : Int32))).1 ^^^ (-1 : Int32)) (f_Mdl_is T (32 : Int32))))) := by
  have e : f_Mdl_arithmetic T (255 : Int32) = if (f_Mdl_find T (31 : Int32)).1 = (0 : Int32) then (((0 : Int32), (f_Mdl_find T (31 : Int32)).2)) else (((1 : Int32), (f_Mdl_add (f_Mdl_load (f_Mdl_find T (31 : Int32)).2 (f_Mdl_is T (32 : Int32))).2 (f_Mdl_cut ((f_Mdl_load (f_Mdl_find T (31 : Int32)).2 (f_Mdl_is T (32 : Int32))).1 ^^^ (-1 : Int32)) (f_Mdl_is T (32 : Int32)))))) := rfl
  rw [e, fd1_31, if_neg (by decide : ¬ (1 : Int32) = 0)]
theorem o_FF {S T : Sc} (h : RR S T) : KO (f_Prc_useAccumulator S (255 : Int32)) (f_Mdl_arithmetic T (255 : Int32)) := by
  rw [ec_FF, em_FF]
  obtain ⟨f1, f2, f3, f4⟩ := sp_31 h
  obtain ⟨l1, l2, l3⟩ := s_load f2 f3 (WN_A h)
  have lf := (fr_rv (S := (f_Opd_place S 31).2) (c := (f_Opd_place S 31).1) (WN_A h)).trans f4
  have hw := WN_fr h lf
  refine ⟨rfl, rfl, s_add2 l3 ?_⟩
  rw [l1]
  exact msk_cut (WN_A h) _
end
section
theorem bn0 (S : Sc) (F G : Sc → Sc) : bn ((0 : Int32), S) (fun r S1 => if r = (0 : Int32) then F S1 else G S1) = F S := rfl
theorem bn1 {x : Int32 × Sc} (k : x.1 = (1 : Int32)) (F G : Sc → Sc) : bn x (fun r S1 => if r = (0 : Int32) then F S1 else G S1) = G x.2 := by
  have e : bn x (fun r S1 => if r = (0 : Int32) then F S1 else G S1) = if x.1 = (0 : Int32) then F x.2 else G x.2 := rfl
  rw [e, k, if_neg (by decide : ¬ (1 : Int32) = 0)]
def cT (S : Sc) (r : Int32) : Sc := bn (f_Prc_useAccumulator S r) (fun r0 S0 => if r0 = (0 : Int32) then (bn (f_Prc_useIndex S0 r) (fun r1 S1 => if r1 = (0 : Int32) then (bn (f_Prc_storeZero S1 r) (fun r2 S2 => if r2 = (0 : Int32) then (bn (f_Prc_changeMemory S2 r) (fun r3 S3 => if r3 = (0 : Int32) then (bn (f_Prc_changeRegister S3 r) (fun r4 S4 => if r4 = (0 : Int32) then (bn (f_Prc_transfer S4 r) (fun r5 S5 => if r5 = (0 : Int32) then (bn (f_Prc_push S5 r) (fun r6 S6 => if r6 = (0 : Int32) then (bn (f_Prc_pull S6 r) (fun r7 S7 => if r7 = (0 : Int32) then (bn (f_Prc_branch S7 r) (fun r8 S8 => if r8 = (0 : Int32) then (bn (f_Prc_jump S8 r) (fun r9 S9 => if r9 = (0 : Int32) then (bn (f_Prc_changeFlags S9 r) (fun r10 S10 => if r10 = (0 : Int32) then (bn (f_Prc_moveBlock S10 r) (fun r11 S11 => if r11 = (0 : Int32) then ((pr S11 12 (1 : Int32))) else ((pr S11 12 (0 : Int32))))) else ((pr S10 12 (0 : Int32))))) else ((pr S9 12 (0 : Int32))))) else ((pr S8 12 (0 : Int32))))) else ((pr S7 12 (0 : Int32))))) else ((pr S6 12 (0 : Int32))))) else ((pr S5 12 (0 : Int32))))) else ((pr S4 12 (0 : Int32))))) else ((pr S3 12 (0 : Int32))))) else ((pr S2 12 (0 : Int32))))) else ((pr S1 12 (0 : Int32))))) else ((pr S0 12 (0 : Int32))))
def mC (S : Sc) (r : Int32) : Sc := bn (f_Mdl_change S r) (fun r0 S0 => if r0 = (0 : Int32) then (bn (f_Mdl_index S0 r) (fun r1 S1 => if r1 = (0 : Int32) then (bn (f_Mdl_transfer S1 r) (fun r2 S2 => if r2 = (0 : Int32) then (bn (f_Mdl_stack S2 r) (fun r3 S3 => if r3 = (0 : Int32) then (bn (f_Mdl_jump S3 r) (fun r4 S4 => if r4 = (0 : Int32) then (bn (f_Mdl_other S4 r) (fun r5 S5 => if r5 = (0 : Int32) then ((pr S5 9 (1 : Int32))) else ((pr S5 9 (0 : Int32))))) else ((pr S4 9 (0 : Int32))))) else ((pr S3 9 (0 : Int32))))) else ((pr S2 9 (0 : Int32))))) else ((pr S1 9 (0 : Int32))))) else ((pr S0 9 (0 : Int32))))
def mA (S : Sc) (r : Int32) : Sc := bn (f_Mdl_arithmetic S r) (fun r0 S0 => if r0 = (0 : Int32) then ((pr S0 9 (1 : Int32))) else ((pr S0 9 (0 : Int32))))
def mT (S : Sc) (r : Int32) : Sc := if ((r &&& (31 : Int32)) &&& (1 : Int32)) = (1 : Int32) then (if (r &&& (31 : Int32)) = (11 : Int32) then (mC S r) else (if (r &&& (31 : Int32)) = (27 : Int32) then (mC S r) else (mA S r))) else (if (r &&& (31 : Int32)) = (18 : Int32) then (mA S r) else (mC S r))
theorem cT_0 {S : Sc} {r : Int32}  (k : (f_Prc_useAccumulator S r).1 = (1 : Int32)) : cT S r = pr (f_Prc_useAccumulator S r).2 12 (0 : Int32) := by
  unfold cT
  rw [bn1 k]
theorem cT_1 {S : Sc} {r : Int32} (h0 : f_Prc_useAccumulator S r = ((0 : Int32), S)) (k : (f_Prc_useIndex S r).1 = (1 : Int32)) : cT S r = pr (f_Prc_useIndex S r).2 12 (0 : Int32) := by
  unfold cT
  rw [h0, bn0, bn1 k]
theorem cT_2 {S : Sc} {r : Int32} (h0 : f_Prc_useAccumulator S r = ((0 : Int32), S)) (h1 : f_Prc_useIndex S r = ((0 : Int32), S)) (k : (f_Prc_storeZero S r).1 = (1 : Int32)) : cT S r = pr (f_Prc_storeZero S r).2 12 (0 : Int32) := by
  unfold cT
  rw [h0, bn0, h1, bn0, bn1 k]
theorem cT_3 {S : Sc} {r : Int32} (h0 : f_Prc_useAccumulator S r = ((0 : Int32), S)) (h1 : f_Prc_useIndex S r = ((0 : Int32), S)) (h2 : f_Prc_storeZero S r = ((0 : Int32), S)) (k : (f_Prc_changeMemory S r).1 = (1 : Int32)) : cT S r = pr (f_Prc_changeMemory S r).2 12 (0 : Int32) := by
  unfold cT
  rw [h0, bn0, h1, bn0, h2, bn0, bn1 k]
theorem cT_4 {S : Sc} {r : Int32} (h0 : f_Prc_useAccumulator S r = ((0 : Int32), S)) (h1 : f_Prc_useIndex S r = ((0 : Int32), S)) (h2 : f_Prc_storeZero S r = ((0 : Int32), S)) (h3 : f_Prc_changeMemory S r = ((0 : Int32), S)) (k : (f_Prc_changeRegister S r).1 = (1 : Int32)) : cT S r = pr (f_Prc_changeRegister S r).2 12 (0 : Int32) := by
  unfold cT
  rw [h0, bn0, h1, bn0, h2, bn0, h3, bn0, bn1 k]
theorem cT_5 {S : Sc} {r : Int32} (h0 : f_Prc_useAccumulator S r = ((0 : Int32), S)) (h1 : f_Prc_useIndex S r = ((0 : Int32), S)) (h2 : f_Prc_storeZero S r = ((0 : Int32), S)) (h3 : f_Prc_changeMemory S r = ((0 : Int32), S)) (h4 : f_Prc_changeRegister S r = ((0 : Int32), S)) (k : (f_Prc_transfer S r).1 = (1 : Int32)) : cT S r = pr (f_Prc_transfer S r).2 12 (0 : Int32) := by
  unfold cT
  rw [h0, bn0, h1, bn0, h2, bn0, h3, bn0, h4, bn0, bn1 k]
theorem cT_6 {S : Sc} {r : Int32} (h0 : f_Prc_useAccumulator S r = ((0 : Int32), S)) (h1 : f_Prc_useIndex S r = ((0 : Int32), S)) (h2 : f_Prc_storeZero S r = ((0 : Int32), S)) (h3 : f_Prc_changeMemory S r = ((0 : Int32), S)) (h4 : f_Prc_changeRegister S r = ((0 : Int32), S)) (h5 : f_Prc_transfer S r = ((0 : Int32), S)) (k : (f_Prc_push S r).1 = (1 : Int32)) : cT S r = pr (f_Prc_push S r).2 12 (0 : Int32) := by
  unfold cT
  rw [h0, bn0, h1, bn0, h2, bn0, h3, bn0, h4, bn0, h5, bn0, bn1 k]
theorem cT_7 {S : Sc} {r : Int32} (h0 : f_Prc_useAccumulator S r = ((0 : Int32), S)) (h1 : f_Prc_useIndex S r = ((0 : Int32), S)) (h2 : f_Prc_storeZero S r = ((0 : Int32), S)) (h3 : f_Prc_changeMemory S r = ((0 : Int32), S)) (h4 : f_Prc_changeRegister S r = ((0 : Int32), S)) (h5 : f_Prc_transfer S r = ((0 : Int32), S)) (h6 : f_Prc_push S r = ((0 : Int32), S)) (k : (f_Prc_pull S r).1 = (1 : Int32)) : cT S r = pr (f_Prc_pull S r).2 12 (0 : Int32) := by
  unfold cT
  rw [h0, bn0, h1, bn0, h2, bn0, h3, bn0, h4, bn0, h5, bn0, h6, bn0, bn1 k]
theorem cT_8 {S : Sc} {r : Int32} (h0 : f_Prc_useAccumulator S r = ((0 : Int32), S)) (h1 : f_Prc_useIndex S r = ((0 : Int32), S)) (h2 : f_Prc_storeZero S r = ((0 : Int32), S)) (h3 : f_Prc_changeMemory S r = ((0 : Int32), S)) (h4 : f_Prc_changeRegister S r = ((0 : Int32), S)) (h5 : f_Prc_transfer S r = ((0 : Int32), S)) (h6 : f_Prc_push S r = ((0 : Int32), S)) (h7 : f_Prc_pull S r = ((0 : Int32), S)) (k : (f_Prc_branch S r).1 = (1 : Int32)) : cT S r = pr (f_Prc_branch S r).2 12 (0 : Int32) := by
  unfold cT
  rw [h0, bn0, h1, bn0, h2, bn0, h3, bn0, h4, bn0, h5, bn0, h6, bn0, h7, bn0, bn1 k]
theorem cT_9 {S : Sc} {r : Int32} (h0 : f_Prc_useAccumulator S r = ((0 : Int32), S)) (h1 : f_Prc_useIndex S r = ((0 : Int32), S)) (h2 : f_Prc_storeZero S r = ((0 : Int32), S)) (h3 : f_Prc_changeMemory S r = ((0 : Int32), S)) (h4 : f_Prc_changeRegister S r = ((0 : Int32), S)) (h5 : f_Prc_transfer S r = ((0 : Int32), S)) (h6 : f_Prc_push S r = ((0 : Int32), S)) (h7 : f_Prc_pull S r = ((0 : Int32), S)) (h8 : f_Prc_branch S r = ((0 : Int32), S)) (k : (f_Prc_jump S r).1 = (1 : Int32)) : cT S r = pr (f_Prc_jump S r).2 12 (0 : Int32) := by
  unfold cT
  rw [h0, bn0, h1, bn0, h2, bn0, h3, bn0, h4, bn0, h5, bn0, h6, bn0, h7, bn0, h8, bn0, bn1 k]
theorem cT_10 {S : Sc} {r : Int32} (h0 : f_Prc_useAccumulator S r = ((0 : Int32), S)) (h1 : f_Prc_useIndex S r = ((0 : Int32), S)) (h2 : f_Prc_storeZero S r = ((0 : Int32), S)) (h3 : f_Prc_changeMemory S r = ((0 : Int32), S)) (h4 : f_Prc_changeRegister S r = ((0 : Int32), S)) (h5 : f_Prc_transfer S r = ((0 : Int32), S)) (h6 : f_Prc_push S r = ((0 : Int32), S)) (h7 : f_Prc_pull S r = ((0 : Int32), S)) (h8 : f_Prc_branch S r = ((0 : Int32), S)) (h9 : f_Prc_jump S r = ((0 : Int32), S)) (k : (f_Prc_changeFlags S r).1 = (1 : Int32)) : cT S r = pr (f_Prc_changeFlags S r).2 12 (0 : Int32) := by
  unfold cT
  rw [h0, bn0, h1, bn0, h2, bn0, h3, bn0, h4, bn0, h5, bn0, h6, bn0, h7, bn0, h8, bn0, h9, bn0, bn1 k]
theorem cT_11 {S : Sc} {r : Int32} (h0 : f_Prc_useAccumulator S r = ((0 : Int32), S)) (h1 : f_Prc_useIndex S r = ((0 : Int32), S)) (h2 : f_Prc_storeZero S r = ((0 : Int32), S)) (h3 : f_Prc_changeMemory S r = ((0 : Int32), S)) (h4 : f_Prc_changeRegister S r = ((0 : Int32), S)) (h5 : f_Prc_transfer S r = ((0 : Int32), S)) (h6 : f_Prc_push S r = ((0 : Int32), S)) (h7 : f_Prc_pull S r = ((0 : Int32), S)) (h8 : f_Prc_branch S r = ((0 : Int32), S)) (h9 : f_Prc_jump S r = ((0 : Int32), S)) (h10 : f_Prc_changeFlags S r = ((0 : Int32), S)) (k : (f_Prc_moveBlock S r).1 = (1 : Int32)) : cT S r = pr (f_Prc_moveBlock S r).2 12 (0 : Int32) := by
  unfold cT
  rw [h0, bn0, h1, bn0, h2, bn0, h3, bn0, h4, bn0, h5, bn0, h6, bn0, h7, bn0, h8, bn0, h9, bn0, h10, bn0, bn1 k]
theorem cT_none {S : Sc} {r : Int32} (h0 : f_Prc_useAccumulator S r = ((0 : Int32), S)) (h1 : f_Prc_useIndex S r = ((0 : Int32), S)) (h2 : f_Prc_storeZero S r = ((0 : Int32), S)) (h3 : f_Prc_changeMemory S r = ((0 : Int32), S)) (h4 : f_Prc_changeRegister S r = ((0 : Int32), S)) (h5 : f_Prc_transfer S r = ((0 : Int32), S)) (h6 : f_Prc_push S r = ((0 : Int32), S)) (h7 : f_Prc_pull S r = ((0 : Int32), S)) (h8 : f_Prc_branch S r = ((0 : Int32), S)) (h9 : f_Prc_jump S r = ((0 : Int32), S)) (h10 : f_Prc_changeFlags S r = ((0 : Int32), S)) (h11 : f_Prc_moveBlock S r = ((0 : Int32), S)) : cT S r = pr S 12 (1 : Int32) := by
  unfold cT
  rw [h0, bn0, h1, bn0, h2, bn0, h3, bn0, h4, bn0, h5, bn0, h6, bn0, h7, bn0, h8, bn0, h9, bn0, h10, bn0, h11, bn0]
theorem mC_0 {S : Sc} {r : Int32}  (k : (f_Mdl_change S r).1 = (1 : Int32)) : mC S r = pr (f_Mdl_change S r).2 9 (0 : Int32) := by
  unfold mC
  rw [bn1 k]
theorem mC_1 {S : Sc} {r : Int32} (h0 : f_Mdl_change S r = ((0 : Int32), S)) (k : (f_Mdl_index S r).1 = (1 : Int32)) : mC S r = pr (f_Mdl_index S r).2 9 (0 : Int32) := by
  unfold mC
  rw [h0, bn0, bn1 k]
theorem mC_2 {S : Sc} {r : Int32} (h0 : f_Mdl_change S r = ((0 : Int32), S)) (h1 : f_Mdl_index S r = ((0 : Int32), S)) (k : (f_Mdl_transfer S r).1 = (1 : Int32)) : mC S r = pr (f_Mdl_transfer S r).2 9 (0 : Int32) := by
  unfold mC
  rw [h0, bn0, h1, bn0, bn1 k]
theorem mC_3 {S : Sc} {r : Int32} (h0 : f_Mdl_change S r = ((0 : Int32), S)) (h1 : f_Mdl_index S r = ((0 : Int32), S)) (h2 : f_Mdl_transfer S r = ((0 : Int32), S)) (k : (f_Mdl_stack S r).1 = (1 : Int32)) : mC S r = pr (f_Mdl_stack S r).2 9 (0 : Int32) := by
  unfold mC
  rw [h0, bn0, h1, bn0, h2, bn0, bn1 k]
theorem mC_4 {S : Sc} {r : Int32} (h0 : f_Mdl_change S r = ((0 : Int32), S)) (h1 : f_Mdl_index S r = ((0 : Int32), S)) (h2 : f_Mdl_transfer S r = ((0 : Int32), S)) (h3 : f_Mdl_stack S r = ((0 : Int32), S)) (k : (f_Mdl_jump S r).1 = (1 : Int32)) : mC S r = pr (f_Mdl_jump S r).2 9 (0 : Int32) := by
  unfold mC
  rw [h0, bn0, h1, bn0, h2, bn0, h3, bn0, bn1 k]
theorem mC_5 {S : Sc} {r : Int32} (h0 : f_Mdl_change S r = ((0 : Int32), S)) (h1 : f_Mdl_index S r = ((0 : Int32), S)) (h2 : f_Mdl_transfer S r = ((0 : Int32), S)) (h3 : f_Mdl_stack S r = ((0 : Int32), S)) (h4 : f_Mdl_jump S r = ((0 : Int32), S)) (k : (f_Mdl_other S r).1 = (1 : Int32)) : mC S r = pr (f_Mdl_other S r).2 9 (0 : Int32) := by
  unfold mC
  rw [h0, bn0, h1, bn0, h2, bn0, h3, bn0, h4, bn0, bn1 k]
theorem mC_none {S : Sc} {r : Int32} (h0 : f_Mdl_change S r = ((0 : Int32), S)) (h1 : f_Mdl_index S r = ((0 : Int32), S)) (h2 : f_Mdl_transfer S r = ((0 : Int32), S)) (h3 : f_Mdl_stack S r = ((0 : Int32), S)) (h4 : f_Mdl_jump S r = ((0 : Int32), S)) (h5 : f_Mdl_other S r = ((0 : Int32), S)) : mC S r = pr S 9 (1 : Int32) := by
  unfold mC
  rw [h0, bn0, h1, bn0, h2, bn0, h3, bn0, h4, bn0, h5, bn0]
theorem mA_0 {S : Sc} {r : Int32}  (k : (f_Mdl_arithmetic S r).1 = (1 : Int32)) : mA S r = pr (f_Mdl_arithmetic S r).2 9 (0 : Int32) := by
  unfold mA
  rw [bn1 k]
theorem mA_none {S : Sc} {r : Int32} (h0 : f_Mdl_arithmetic S r = ((0 : Int32), S)) : mA S r = pr S 9 (1 : Int32) := by
  unfold mA
  rw [h0, bn0]
end
section
theorem dd_1 {S T : Sc} (h : RR S T) : RR (cT S 1) (mT T 1) := by
  have o : KO (f_Prc_useAccumulator S 1) (f_Mdl_arithmetic T 1) := o_01 h
  rw [cT_0  o.1, show mT T 1 = mA T 1 from rfl, mA_0  o.2.1]
  exact R_12 o.2.2 rfl (Or.inl rfl)
theorem dd_2 {S T : Sc} (h : RR S T) : RR (cT S 2) (mT T 2) := by
  rw [cT_none rfl rfl rfl rfl rfl rfl rfl rfl rfl rfl rfl rfl, show mT T 2 = mC T 2 from rfl, mC_none rfl rfl rfl rfl rfl rfl]
  exact R_12 h rfl (Or.inr rfl)
theorem dd_3 {S T : Sc} (h : RR S T) : RR (cT S 3) (mT T 3) := by
  have o : KO (f_Prc_useAccumulator S 3) (f_Mdl_arithmetic T 3) := o_03 h
  rw [cT_0  o.1, show mT T 3 = mA T 3 from rfl, mA_0  o.2.1]
  exact R_12 o.2.2 rfl (Or.inl rfl)
theorem dd_4 {S T : Sc} (h : RR S T) : RR (cT S 4) (mT T 4) := by
  rw [cT_none rfl rfl rfl rfl rfl rfl rfl rfl rfl rfl rfl rfl, show mT T 4 = mC T 4 from rfl, mC_none rfl rfl rfl rfl rfl rfl]
  exact R_12 h rfl (Or.inr rfl)
theorem dd_5 {S T : Sc} (h : RR S T) : RR (cT S 5) (mT T 5) := by
  have o : KO (f_Prc_useAccumulator S 5) (f_Mdl_arithmetic T 5) := o_05 h
  rw [cT_0  o.1, show mT T 5 = mA T 5 from rfl, mA_0  o.2.1]
  exact R_12 o.2.2 rfl (Or.inl rfl)
theorem dd_6 {S T : Sc} (h : RR S T) : RR (cT S 6) (mT T 6) := by
  have o : KO (f_Prc_changeMemory S 6) (f_Mdl_change T 6) := o_06 h
  rw [cT_3 rfl rfl rfl o.1, show mT T 6 = mC T 6 from rfl, mC_0  o.2.1]
  exact R_12 o.2.2 rfl (Or.inl rfl)
theorem dd_7 {S T : Sc} (h : RR S T) : RR (cT S 7) (mT T 7) := by
  have o : KO (f_Prc_useAccumulator S 7) (f_Mdl_arithmetic T 7) := o_07 h
  rw [cT_0  o.1, show mT T 7 = mA T 7 from rfl, mA_0  o.2.1]
  exact R_12 o.2.2 rfl (Or.inl rfl)
theorem dd_8 {S T : Sc} (h : RR S T) : RR (cT S 8) (mT T 8) := by
  have o : KO (f_Prc_push S 8) (f_Mdl_stack T 8) := o_08 h
  rw [cT_6 rfl rfl rfl rfl rfl rfl o.1, show mT T 8 = mC T 8 from rfl, mC_3 rfl rfl rfl o.2.1]
  exact R_12 o.2.2 rfl (Or.inl rfl)
theorem dd_9 {S T : Sc} (h : RR S T) : RR (cT S 9) (mT T 9) := by
  have o : KO (f_Prc_useAccumulator S 9) (f_Mdl_arithmetic T 9) := o_09 h
  rw [cT_0  o.1, show mT T 9 = mA T 9 from rfl, mA_0  o.2.1]
  exact R_12 o.2.2 rfl (Or.inl rfl)
theorem dd_10 {S T : Sc} (h : RR S T) : RR (cT S 10) (mT T 10) := by
  have o : KO (f_Prc_changeRegister S 10) (f_Mdl_change T 10) := o_0A h
  rw [cT_4 rfl rfl rfl rfl o.1, show mT T 10 = mC T 10 from rfl, mC_0  o.2.1]
  exact R_12 o.2.2 rfl (Or.inl rfl)
theorem dd_11 {S T : Sc} (h : RR S T) : RR (cT S 11) (mT T 11) := by
  have o : KO (f_Prc_push S 11) (f_Mdl_stack T 11) := o_0B h
  rw [cT_6 rfl rfl rfl rfl rfl rfl o.1, show mT T 11 = mC T 11 from rfl, mC_3 rfl rfl rfl o.2.1]
  exact R_12 o.2.2 rfl (Or.inl rfl)
theorem dd_12 {S T : Sc} (h : RR S T) : RR (cT S 12) (mT T 12) := by
  rw [cT_none rfl rfl rfl rfl rfl rfl rfl rfl rfl rfl rfl rfl, show mT T 12 = mC T 12 from rfl, mC_none rfl rfl rfl rfl rfl rfl]
  exact R_12 h rfl (Or.inr rfl)
theorem dd_13 {S T : Sc} (h : RR S T) : RR (cT S 13) (mT T 13) := by
  have o : KO (f_Prc_useAccumulator S 13) (f_Mdl_arithmetic T 13) := o_0D h
  rw [cT_0  o.1, show mT T 13 = mA T 13 from rfl, mA_0  o.2.1]
  exact R_12 o.2.2 rfl (Or.inl rfl)
theorem dd_14 {S T : Sc} (h : RR S T) : RR (cT S 14) (mT T 14) := by
  rw [cT_none rfl rfl rfl rfl rfl rfl rfl rfl rfl rfl rfl rfl, show mT T 14 = mC T 14 from rfl, mC_none rfl rfl rfl rfl rfl rfl]
  exact R_12 h rfl (Or.inr rfl)
theorem dd_15 {S T : Sc} (h : RR S T) : RR (cT S 15) (mT T 15) := by
  have o : KO (f_Prc_useAccumulator S 15) (f_Mdl_arithmetic T 15) := o_0F h
  rw [cT_0  o.1, show mT T 15 = mA T 15 from rfl, mA_0  o.2.1]
  exact R_12 o.2.2 rfl (Or.inl rfl)
theorem dd_16 {S T : Sc} (h : RR S T) : RR (cT S 16) (mT T 16) := by
  have o : KO (f_Prc_branch S 16) (f_Mdl_jump T 16) := o_10 h
  rw [cT_8 rfl rfl rfl rfl rfl rfl rfl rfl o.1, show mT T 16 = mC T 16 from rfl, mC_4 rfl rfl rfl rfl o.2.1]
  exact R_12 o.2.2 rfl (Or.inl rfl)
theorem dd_17 {S T : Sc} (h : RR S T) : RR (cT S 17) (mT T 17) := by
  have o : KO (f_Prc_useAccumulator S 17) (f_Mdl_arithmetic T 17) := o_11 h
  rw [cT_0  o.1, show mT T 17 = mA T 17 from rfl, mA_0  o.2.1]
  exact R_12 o.2.2 rfl (Or.inl rfl)
theorem dd_18 {S T : Sc} (h : RR S T) : RR (cT S 18) (mT T 18) := by
  have o : KO (f_Prc_useAccumulator S 18) (f_Mdl_arithmetic T 18) := o_12 h
  rw [cT_0  o.1, show mT T 18 = mA T 18 from rfl, mA_0  o.2.1]
  exact R_12 o.2.2 rfl (Or.inl rfl)
theorem dd_19 {S T : Sc} (h : RR S T) : RR (cT S 19) (mT T 19) := by
  have o : KO (f_Prc_useAccumulator S 19) (f_Mdl_arithmetic T 19) := o_13 h
  rw [cT_0  o.1, show mT T 19 = mA T 19 from rfl, mA_0  o.2.1]
  exact R_12 o.2.2 rfl (Or.inl rfl)
theorem dd_20 {S T : Sc} (h : RR S T) : RR (cT S 20) (mT T 20) := by
  rw [cT_none rfl rfl rfl rfl rfl rfl rfl rfl rfl rfl rfl rfl, show mT T 20 = mC T 20 from rfl, mC_none rfl rfl rfl rfl rfl rfl]
  exact R_12 h rfl (Or.inr rfl)
theorem dd_21 {S T : Sc} (h : RR S T) : RR (cT S 21) (mT T 21) := by
  have o : KO (f_Prc_useAccumulator S 21) (f_Mdl_arithmetic T 21) := o_15 h
  rw [cT_0  o.1, show mT T 21 = mA T 21 from rfl, mA_0  o.2.1]
  exact R_12 o.2.2 rfl (Or.inl rfl)
theorem dd_22 {S T : Sc} (h : RR S T) : RR (cT S 22) (mT T 22) := by
  rw [cT_none rfl rfl rfl rfl rfl rfl rfl rfl rfl rfl rfl rfl, show mT T 22 = mC T 22 from rfl, mC_none rfl rfl rfl rfl rfl rfl]
  exact R_12 h rfl (Or.inr rfl)
theorem dd_23 {S T : Sc} (h : RR S T) : RR (cT S 23) (mT T 23) := by
  have o : KO (f_Prc_useAccumulator S 23) (f_Mdl_arithmetic T 23) := o_17 h
  rw [cT_0  o.1, show mT T 23 = mA T 23 from rfl, mA_0  o.2.1]
  exact R_12 o.2.2 rfl (Or.inl rfl)
theorem dd_24 {S T : Sc} (h : RR S T) : RR (cT S 24) (mT T 24) := by
  have o : KO (f_Prc_changeFlags S 24) (f_Mdl_other T 24) := o_18 h
  rw [cT_10 rfl rfl rfl rfl rfl rfl rfl rfl rfl rfl o.1, show mT T 24 = mC T 24 from rfl, mC_5 rfl rfl rfl rfl rfl o.2.1]
  exact R_12 o.2.2 rfl (Or.inl rfl)
theorem dd_25 {S T : Sc} (h : RR S T) : RR (cT S 25) (mT T 25) := by
  have o : KO (f_Prc_useAccumulator S 25) (f_Mdl_arithmetic T 25) := o_19 h
  rw [cT_0  o.1, show mT T 25 = mA T 25 from rfl, mA_0  o.2.1]
  exact R_12 o.2.2 rfl (Or.inl rfl)
theorem dd_26 {S T : Sc} (h : RR S T) : RR (cT S 26) (mT T 26) := by
  have o : KO (f_Prc_changeRegister S 26) (f_Mdl_change T 26) := o_1A h
  rw [cT_4 rfl rfl rfl rfl o.1, show mT T 26 = mC T 26 from rfl, mC_0  o.2.1]
  exact R_12 o.2.2 rfl (Or.inl rfl)
theorem dd_27 {S T : Sc} (h : RR S T) : RR (cT S 27) (mT T 27) := by
  have o : KO (f_Prc_transfer S 27) (f_Mdl_transfer T 27) := o_1B h
  rw [cT_5 rfl rfl rfl rfl rfl o.1, show mT T 27 = mC T 27 from rfl, mC_2 rfl rfl o.2.1]
  exact R_12 o.2.2 rfl (Or.inl rfl)
theorem dd_28 {S T : Sc} (h : RR S T) : RR (cT S 28) (mT T 28) := by
  rw [cT_none rfl rfl rfl rfl rfl rfl rfl rfl rfl rfl rfl rfl, show mT T 28 = mC T 28 from rfl, mC_none rfl rfl rfl rfl rfl rfl]
  exact R_12 h rfl (Or.inr rfl)
theorem dd_29 {S T : Sc} (h : RR S T) : RR (cT S 29) (mT T 29) := by
  have o : KO (f_Prc_useAccumulator S 29) (f_Mdl_arithmetic T 29) := o_1D h
  rw [cT_0  o.1, show mT T 29 = mA T 29 from rfl, mA_0  o.2.1]
  exact R_12 o.2.2 rfl (Or.inl rfl)
theorem dd_30 {S T : Sc} (h : RR S T) : RR (cT S 30) (mT T 30) := by
  rw [cT_none rfl rfl rfl rfl rfl rfl rfl rfl rfl rfl rfl rfl, show mT T 30 = mC T 30 from rfl, mC_none rfl rfl rfl rfl rfl rfl]
  exact R_12 h rfl (Or.inr rfl)
theorem dd_31 {S T : Sc} (h : RR S T) : RR (cT S 31) (mT T 31) := by
  have o : KO (f_Prc_useAccumulator S 31) (f_Mdl_arithmetic T 31) := o_1F h
  rw [cT_0  o.1, show mT T 31 = mA T 31 from rfl, mA_0  o.2.1]
  exact R_12 o.2.2 rfl (Or.inl rfl)
theorem dd_32 {S T : Sc} (h : RR S T) : RR (cT S 32) (mT T 32) := by
  have o : KO (f_Prc_jump S 32) (f_Mdl_jump T 32) := o_20 h
  rw [cT_9 rfl rfl rfl rfl rfl rfl rfl rfl rfl o.1, show mT T 32 = mC T 32 from rfl, mC_4 rfl rfl rfl rfl o.2.1]
  exact R_12 o.2.2 rfl (Or.inl rfl)
theorem dd_33 {S T : Sc} (h : RR S T) : RR (cT S 33) (mT T 33) := by
  have o : KO (f_Prc_useAccumulator S 33) (f_Mdl_arithmetic T 33) := o_21 h
  rw [cT_0  o.1, show mT T 33 = mA T 33 from rfl, mA_0  o.2.1]
  exact R_12 o.2.2 rfl (Or.inl rfl)
theorem dd_34 {S T : Sc} (h : RR S T) : RR (cT S 34) (mT T 34) := by
  have o : KO (f_Prc_jump S 34) (f_Mdl_jump T 34) := o_22 h
  rw [cT_9 rfl rfl rfl rfl rfl rfl rfl rfl rfl o.1, show mT T 34 = mC T 34 from rfl, mC_4 rfl rfl rfl rfl o.2.1]
  exact R_12 o.2.2 rfl (Or.inl rfl)
theorem dd_35 {S T : Sc} (h : RR S T) : RR (cT S 35) (mT T 35) := by
  have o : KO (f_Prc_useAccumulator S 35) (f_Mdl_arithmetic T 35) := o_23 h
  rw [cT_0  o.1, show mT T 35 = mA T 35 from rfl, mA_0  o.2.1]
  exact R_12 o.2.2 rfl (Or.inl rfl)
theorem dd_36 {S T : Sc} (h : RR S T) : RR (cT S 36) (mT T 36) := by
  rw [cT_none rfl rfl rfl rfl rfl rfl rfl rfl rfl rfl rfl rfl, show mT T 36 = mC T 36 from rfl, mC_none rfl rfl rfl rfl rfl rfl]
  exact R_12 h rfl (Or.inr rfl)
theorem dd_37 {S T : Sc} (h : RR S T) : RR (cT S 37) (mT T 37) := by
  have o : KO (f_Prc_useAccumulator S 37) (f_Mdl_arithmetic T 37) := o_25 h
  rw [cT_0  o.1, show mT T 37 = mA T 37 from rfl, mA_0  o.2.1]
  exact R_12 o.2.2 rfl (Or.inl rfl)
theorem dd_38 {S T : Sc} (h : RR S T) : RR (cT S 38) (mT T 38) := by
  have o : KO (f_Prc_changeMemory S 38) (f_Mdl_change T 38) := o_26 h
  rw [cT_3 rfl rfl rfl o.1, show mT T 38 = mC T 38 from rfl, mC_0  o.2.1]
  exact R_12 o.2.2 rfl (Or.inl rfl)
theorem dd_39 {S T : Sc} (h : RR S T) : RR (cT S 39) (mT T 39) := by
  have o : KO (f_Prc_useAccumulator S 39) (f_Mdl_arithmetic T 39) := o_27 h
  rw [cT_0  o.1, show mT T 39 = mA T 39 from rfl, mA_0  o.2.1]
  exact R_12 o.2.2 rfl (Or.inl rfl)
theorem dd_40 {S T : Sc} (h : RR S T) : RR (cT S 40) (mT T 40) := by
  have o : KO (f_Prc_pull S 40) (f_Mdl_stack T 40) := o_28 h
  rw [cT_7 rfl rfl rfl rfl rfl rfl rfl o.1, show mT T 40 = mC T 40 from rfl, mC_3 rfl rfl rfl o.2.1]
  exact R_12 o.2.2 rfl (Or.inl rfl)
theorem dd_41 {S T : Sc} (h : RR S T) : RR (cT S 41) (mT T 41) := by
  have o : KO (f_Prc_useAccumulator S 41) (f_Mdl_arithmetic T 41) := o_29 h
  rw [cT_0  o.1, show mT T 41 = mA T 41 from rfl, mA_0  o.2.1]
  exact R_12 o.2.2 rfl (Or.inl rfl)
theorem dd_42 {S T : Sc} (h : RR S T) : RR (cT S 42) (mT T 42) := by
  have o : KO (f_Prc_changeRegister S 42) (f_Mdl_change T 42) := o_2A h
  rw [cT_4 rfl rfl rfl rfl o.1, show mT T 42 = mC T 42 from rfl, mC_0  o.2.1]
  exact R_12 o.2.2 rfl (Or.inl rfl)
theorem dd_43 {S T : Sc} (h : RR S T) : RR (cT S 43) (mT T 43) := by
  have o : KO (f_Prc_pull S 43) (f_Mdl_stack T 43) := o_2B h
  rw [cT_7 rfl rfl rfl rfl rfl rfl rfl o.1, show mT T 43 = mC T 43 from rfl, mC_3 rfl rfl rfl o.2.1]
  exact R_12 o.2.2 rfl (Or.inl rfl)
theorem dd_44 {S T : Sc} (h : RR S T) : RR (cT S 44) (mT T 44) := by
  rw [cT_none rfl rfl rfl rfl rfl rfl rfl rfl rfl rfl rfl rfl, show mT T 44 = mC T 44 from rfl, mC_none rfl rfl rfl rfl rfl rfl]
  exact R_12 h rfl (Or.inr rfl)
theorem dd_45 {S T : Sc} (h : RR S T) : RR (cT S 45) (mT T 45) := by
  have o : KO (f_Prc_useAccumulator S 45) (f_Mdl_arithmetic T 45) := o_2D h
  rw [cT_0  o.1, show mT T 45 = mA T 45 from rfl, mA_0  o.2.1]
  exact R_12 o.2.2 rfl (Or.inl rfl)
theorem dd_46 {S T : Sc} (h : RR S T) : RR (cT S 46) (mT T 46) := by
  rw [cT_none rfl rfl rfl rfl rfl rfl rfl rfl rfl rfl rfl rfl, show mT T 46 = mC T 46 from rfl, mC_none rfl rfl rfl rfl rfl rfl]
  exact R_12 h rfl (Or.inr rfl)
theorem dd_47 {S T : Sc} (h : RR S T) : RR (cT S 47) (mT T 47) := by
  have o : KO (f_Prc_useAccumulator S 47) (f_Mdl_arithmetic T 47) := o_2F h
  rw [cT_0  o.1, show mT T 47 = mA T 47 from rfl, mA_0  o.2.1]
  exact R_12 o.2.2 rfl (Or.inl rfl)
theorem dd_48 {S T : Sc} (h : RR S T) : RR (cT S 48) (mT T 48) := by
  have o : KO (f_Prc_branch S 48) (f_Mdl_jump T 48) := o_30 h
  rw [cT_8 rfl rfl rfl rfl rfl rfl rfl rfl o.1, show mT T 48 = mC T 48 from rfl, mC_4 rfl rfl rfl rfl o.2.1]
  exact R_12 o.2.2 rfl (Or.inl rfl)
theorem dd_49 {S T : Sc} (h : RR S T) : RR (cT S 49) (mT T 49) := by
  have o : KO (f_Prc_useAccumulator S 49) (f_Mdl_arithmetic T 49) := o_31 h
  rw [cT_0  o.1, show mT T 49 = mA T 49 from rfl, mA_0  o.2.1]
  exact R_12 o.2.2 rfl (Or.inl rfl)
theorem dd_50 {S T : Sc} (h : RR S T) : RR (cT S 50) (mT T 50) := by
  have o : KO (f_Prc_useAccumulator S 50) (f_Mdl_arithmetic T 50) := o_32 h
  rw [cT_0  o.1, show mT T 50 = mA T 50 from rfl, mA_0  o.2.1]
  exact R_12 o.2.2 rfl (Or.inl rfl)
theorem dd_51 {S T : Sc} (h : RR S T) : RR (cT S 51) (mT T 51) := by
  have o : KO (f_Prc_useAccumulator S 51) (f_Mdl_arithmetic T 51) := o_33 h
  rw [cT_0  o.1, show mT T 51 = mA T 51 from rfl, mA_0  o.2.1]
  exact R_12 o.2.2 rfl (Or.inl rfl)
theorem dd_52 {S T : Sc} (h : RR S T) : RR (cT S 52) (mT T 52) := by
  rw [cT_none rfl rfl rfl rfl rfl rfl rfl rfl rfl rfl rfl rfl, show mT T 52 = mC T 52 from rfl, mC_none rfl rfl rfl rfl rfl rfl]
  exact R_12 h rfl (Or.inr rfl)
theorem dd_53 {S T : Sc} (h : RR S T) : RR (cT S 53) (mT T 53) := by
  have o : KO (f_Prc_useAccumulator S 53) (f_Mdl_arithmetic T 53) := o_35 h
  rw [cT_0  o.1, show mT T 53 = mA T 53 from rfl, mA_0  o.2.1]
  exact R_12 o.2.2 rfl (Or.inl rfl)
theorem dd_54 {S T : Sc} (h : RR S T) : RR (cT S 54) (mT T 54) := by
  rw [cT_none rfl rfl rfl rfl rfl rfl rfl rfl rfl rfl rfl rfl, show mT T 54 = mC T 54 from rfl, mC_none rfl rfl rfl rfl rfl rfl]
  exact R_12 h rfl (Or.inr rfl)
theorem dd_55 {S T : Sc} (h : RR S T) : RR (cT S 55) (mT T 55) := by
  have o : KO (f_Prc_useAccumulator S 55) (f_Mdl_arithmetic T 55) := o_37 h
  rw [cT_0  o.1, show mT T 55 = mA T 55 from rfl, mA_0  o.2.1]
  exact R_12 o.2.2 rfl (Or.inl rfl)
theorem dd_56 {S T : Sc} (h : RR S T) : RR (cT S 56) (mT T 56) := by
  have o : KO (f_Prc_changeFlags S 56) (f_Mdl_other T 56) := o_38 h
  rw [cT_10 rfl rfl rfl rfl rfl rfl rfl rfl rfl rfl o.1, show mT T 56 = mC T 56 from rfl, mC_5 rfl rfl rfl rfl rfl o.2.1]
  exact R_12 o.2.2 rfl (Or.inl rfl)
theorem dd_57 {S T : Sc} (h : RR S T) : RR (cT S 57) (mT T 57) := by
  have o : KO (f_Prc_useAccumulator S 57) (f_Mdl_arithmetic T 57) := o_39 h
  rw [cT_0  o.1, show mT T 57 = mA T 57 from rfl, mA_0  o.2.1]
  exact R_12 o.2.2 rfl (Or.inl rfl)
theorem dd_58 {S T : Sc} (h : RR S T) : RR (cT S 58) (mT T 58) := by
  have o : KO (f_Prc_changeRegister S 58) (f_Mdl_change T 58) := o_3A h
  rw [cT_4 rfl rfl rfl rfl o.1, show mT T 58 = mC T 58 from rfl, mC_0  o.2.1]
  exact R_12 o.2.2 rfl (Or.inl rfl)
theorem dd_59 {S T : Sc} (h : RR S T) : RR (cT S 59) (mT T 59) := by
  have o : KO (f_Prc_transfer S 59) (f_Mdl_transfer T 59) := o_3B h
  rw [cT_5 rfl rfl rfl rfl rfl o.1, show mT T 59 = mC T 59 from rfl, mC_2 rfl rfl o.2.1]
  exact R_12 o.2.2 rfl (Or.inl rfl)
theorem dd_60 {S T : Sc} (h : RR S T) : RR (cT S 60) (mT T 60) := by
  rw [cT_none rfl rfl rfl rfl rfl rfl rfl rfl rfl rfl rfl rfl, show mT T 60 = mC T 60 from rfl, mC_none rfl rfl rfl rfl rfl rfl]
  exact R_12 h rfl (Or.inr rfl)
theorem dd_61 {S T : Sc} (h : RR S T) : RR (cT S 61) (mT T 61) := by
  have o : KO (f_Prc_useAccumulator S 61) (f_Mdl_arithmetic T 61) := o_3D h
  rw [cT_0  o.1, show mT T 61 = mA T 61 from rfl, mA_0  o.2.1]
  exact R_12 o.2.2 rfl (Or.inl rfl)
theorem dd_62 {S T : Sc} (h : RR S T) : RR (cT S 62) (mT T 62) := by
  rw [cT_none rfl rfl rfl rfl rfl rfl rfl rfl rfl rfl rfl rfl, show mT T 62 = mC T 62 from rfl, mC_none rfl rfl rfl rfl rfl rfl]
  exact R_12 h rfl (Or.inr rfl)
theorem dd_63 {S T : Sc} (h : RR S T) : RR (cT S 63) (mT T 63) := by
  have o : KO (f_Prc_useAccumulator S 63) (f_Mdl_arithmetic T 63) := o_3F h
  rw [cT_0  o.1, show mT T 63 = mA T 63 from rfl, mA_0  o.2.1]
  exact R_12 o.2.2 rfl (Or.inl rfl)
theorem dd_64 {S T : Sc} (h : RR S T) : RR (cT S 64) (mT T 64) := by
  have o : KO (f_Prc_jump S 64) (f_Mdl_jump T 64) := o_40 h
  rw [cT_9 rfl rfl rfl rfl rfl rfl rfl rfl rfl o.1, show mT T 64 = mC T 64 from rfl, mC_4 rfl rfl rfl rfl o.2.1]
  exact R_12 o.2.2 rfl (Or.inl rfl)
theorem dd_65 {S T : Sc} (h : RR S T) : RR (cT S 65) (mT T 65) := by
  have o : KO (f_Prc_useAccumulator S 65) (f_Mdl_arithmetic T 65) := o_41 h
  rw [cT_0  o.1, show mT T 65 = mA T 65 from rfl, mA_0  o.2.1]
  exact R_12 o.2.2 rfl (Or.inl rfl)
theorem dd_66 {S T : Sc} (h : RR S T) : RR (cT S 66) (mT T 66) := by
  rw [cT_none rfl rfl rfl rfl rfl rfl rfl rfl rfl rfl rfl rfl, show mT T 66 = mC T 66 from rfl, mC_none rfl rfl rfl rfl rfl rfl]
  exact R_12 h rfl (Or.inr rfl)
theorem dd_67 {S T : Sc} (h : RR S T) : RR (cT S 67) (mT T 67) := by
  have o : KO (f_Prc_useAccumulator S 67) (f_Mdl_arithmetic T 67) := o_43 h
  rw [cT_0  o.1, show mT T 67 = mA T 67 from rfl, mA_0  o.2.1]
  exact R_12 o.2.2 rfl (Or.inl rfl)
theorem dd_68 {S T : Sc} (h : RR S T) : RR (cT S 68) (mT T 68) := by
  have o : KO (f_Prc_moveBlock S 68) (f_Mdl_other T 68) := o_44 h
  rw [cT_11 rfl rfl rfl rfl rfl rfl rfl rfl rfl rfl rfl o.1, show mT T 68 = mC T 68 from rfl, mC_5 rfl rfl rfl rfl rfl o.2.1]
  exact R_12 o.2.2 rfl (Or.inl rfl)
theorem dd_69 {S T : Sc} (h : RR S T) : RR (cT S 69) (mT T 69) := by
  have o : KO (f_Prc_useAccumulator S 69) (f_Mdl_arithmetic T 69) := o_45 h
  rw [cT_0  o.1, show mT T 69 = mA T 69 from rfl, mA_0  o.2.1]
  exact R_12 o.2.2 rfl (Or.inl rfl)
theorem dd_70 {S T : Sc} (h : RR S T) : RR (cT S 70) (mT T 70) := by
  have o : KO (f_Prc_changeMemory S 70) (f_Mdl_change T 70) := o_46 h
  rw [cT_3 rfl rfl rfl o.1, show mT T 70 = mC T 70 from rfl, mC_0  o.2.1]
  exact R_12 o.2.2 rfl (Or.inl rfl)
theorem dd_71 {S T : Sc} (h : RR S T) : RR (cT S 71) (mT T 71) := by
  have o : KO (f_Prc_useAccumulator S 71) (f_Mdl_arithmetic T 71) := o_47 h
  rw [cT_0  o.1, show mT T 71 = mA T 71 from rfl, mA_0  o.2.1]
  exact R_12 o.2.2 rfl (Or.inl rfl)
theorem dd_72 {S T : Sc} (h : RR S T) : RR (cT S 72) (mT T 72) := by
  have o : KO (f_Prc_push S 72) (f_Mdl_stack T 72) := o_48 h
  rw [cT_6 rfl rfl rfl rfl rfl rfl o.1, show mT T 72 = mC T 72 from rfl, mC_3 rfl rfl rfl o.2.1]
  exact R_12 o.2.2 rfl (Or.inl rfl)
theorem dd_73 {S T : Sc} (h : RR S T) : RR (cT S 73) (mT T 73) := by
  have o : KO (f_Prc_useAccumulator S 73) (f_Mdl_arithmetic T 73) := o_49 h
  rw [cT_0  o.1, show mT T 73 = mA T 73 from rfl, mA_0  o.2.1]
  exact R_12 o.2.2 rfl (Or.inl rfl)
theorem dd_74 {S T : Sc} (h : RR S T) : RR (cT S 74) (mT T 74) := by
  have o : KO (f_Prc_changeRegister S 74) (f_Mdl_change T 74) := o_4A h
  rw [cT_4 rfl rfl rfl rfl o.1, show mT T 74 = mC T 74 from rfl, mC_0  o.2.1]
  exact R_12 o.2.2 rfl (Or.inl rfl)
theorem dd_75 {S T : Sc} (h : RR S T) : RR (cT S 75) (mT T 75) := by
  have o : KO (f_Prc_push S 75) (f_Mdl_stack T 75) := o_4B h
  rw [cT_6 rfl rfl rfl rfl rfl rfl o.1, show mT T 75 = mC T 75 from rfl, mC_3 rfl rfl rfl o.2.1]
  exact R_12 o.2.2 rfl (Or.inl rfl)
theorem dd_76 {S T : Sc} (h : RR S T) : RR (cT S 76) (mT T 76) := by
  have o : KO (f_Prc_jump S 76) (f_Mdl_jump T 76) := o_4C h
  rw [cT_9 rfl rfl rfl rfl rfl rfl rfl rfl rfl o.1, show mT T 76 = mC T 76 from rfl, mC_4 rfl rfl rfl rfl o.2.1]
  exact R_12 o.2.2 rfl (Or.inl rfl)
theorem dd_77 {S T : Sc} (h : RR S T) : RR (cT S 77) (mT T 77) := by
  have o : KO (f_Prc_useAccumulator S 77) (f_Mdl_arithmetic T 77) := o_4D h
  rw [cT_0  o.1, show mT T 77 = mA T 77 from rfl, mA_0  o.2.1]
  exact R_12 o.2.2 rfl (Or.inl rfl)
theorem dd_78 {S T : Sc} (h : RR S T) : RR (cT S 78) (mT T 78) := by
  rw [cT_none rfl rfl rfl rfl rfl rfl rfl rfl rfl rfl rfl rfl, show mT T 78 = mC T 78 from rfl, mC_none rfl rfl rfl rfl rfl rfl]
  exact R_12 h rfl (Or.inr rfl)
theorem dd_79 {S T : Sc} (h : RR S T) : RR (cT S 79) (mT T 79) := by
  have o : KO (f_Prc_useAccumulator S 79) (f_Mdl_arithmetic T 79) := o_4F h
  rw [cT_0  o.1, show mT T 79 = mA T 79 from rfl, mA_0  o.2.1]
  exact R_12 o.2.2 rfl (Or.inl rfl)
theorem dd_80 {S T : Sc} (h : RR S T) : RR (cT S 80) (mT T 80) := by
  have o : KO (f_Prc_branch S 80) (f_Mdl_jump T 80) := o_50 h
  rw [cT_8 rfl rfl rfl rfl rfl rfl rfl rfl o.1, show mT T 80 = mC T 80 from rfl, mC_4 rfl rfl rfl rfl o.2.1]
  exact R_12 o.2.2 rfl (Or.inl rfl)
theorem dd_81 {S T : Sc} (h : RR S T) : RR (cT S 81) (mT T 81) := by
  have o : KO (f_Prc_useAccumulator S 81) (f_Mdl_arithmetic T 81) := o_51 h
  rw [cT_0  o.1, show mT T 81 = mA T 81 from rfl, mA_0  o.2.1]
  exact R_12 o.2.2 rfl (Or.inl rfl)
theorem dd_82 {S T : Sc} (h : RR S T) : RR (cT S 82) (mT T 82) := by
  have o : KO (f_Prc_useAccumulator S 82) (f_Mdl_arithmetic T 82) := o_52 h
  rw [cT_0  o.1, show mT T 82 = mA T 82 from rfl, mA_0  o.2.1]
  exact R_12 o.2.2 rfl (Or.inl rfl)
theorem dd_83 {S T : Sc} (h : RR S T) : RR (cT S 83) (mT T 83) := by
  have o : KO (f_Prc_useAccumulator S 83) (f_Mdl_arithmetic T 83) := o_53 h
  rw [cT_0  o.1, show mT T 83 = mA T 83 from rfl, mA_0  o.2.1]
  exact R_12 o.2.2 rfl (Or.inl rfl)
theorem dd_84 {S T : Sc} (h : RR S T) : RR (cT S 84) (mT T 84) := by
  have o : KO (f_Prc_moveBlock S 84) (f_Mdl_other T 84) := o_54 h
  rw [cT_11 rfl rfl rfl rfl rfl rfl rfl rfl rfl rfl rfl o.1, show mT T 84 = mC T 84 from rfl, mC_5 rfl rfl rfl rfl rfl o.2.1]
  exact R_12 o.2.2 rfl (Or.inl rfl)
theorem dd_85 {S T : Sc} (h : RR S T) : RR (cT S 85) (mT T 85) := by
  have o : KO (f_Prc_useAccumulator S 85) (f_Mdl_arithmetic T 85) := o_55 h
  rw [cT_0  o.1, show mT T 85 = mA T 85 from rfl, mA_0  o.2.1]
  exact R_12 o.2.2 rfl (Or.inl rfl)
theorem dd_86 {S T : Sc} (h : RR S T) : RR (cT S 86) (mT T 86) := by
  rw [cT_none rfl rfl rfl rfl rfl rfl rfl rfl rfl rfl rfl rfl, show mT T 86 = mC T 86 from rfl, mC_none rfl rfl rfl rfl rfl rfl]
  exact R_12 h rfl (Or.inr rfl)
theorem dd_87 {S T : Sc} (h : RR S T) : RR (cT S 87) (mT T 87) := by
  have o : KO (f_Prc_useAccumulator S 87) (f_Mdl_arithmetic T 87) := o_57 h
  rw [cT_0  o.1, show mT T 87 = mA T 87 from rfl, mA_0  o.2.1]
  exact R_12 o.2.2 rfl (Or.inl rfl)
theorem dd_88 {S T : Sc} (h : RR S T) : RR (cT S 88) (mT T 88) := by
  have o : KO (f_Prc_changeFlags S 88) (f_Mdl_other T 88) := o_58 h
  rw [cT_10 rfl rfl rfl rfl rfl rfl rfl rfl rfl rfl o.1, show mT T 88 = mC T 88 from rfl, mC_5 rfl rfl rfl rfl rfl o.2.1]
  exact R_12 o.2.2 rfl (Or.inl rfl)
theorem dd_89 {S T : Sc} (h : RR S T) : RR (cT S 89) (mT T 89) := by
  have o : KO (f_Prc_useAccumulator S 89) (f_Mdl_arithmetic T 89) := o_59 h
  rw [cT_0  o.1, show mT T 89 = mA T 89 from rfl, mA_0  o.2.1]
  exact R_12 o.2.2 rfl (Or.inl rfl)
theorem dd_90 {S T : Sc} (h : RR S T) : RR (cT S 90) (mT T 90) := by
  have o : KO (f_Prc_push S 90) (f_Mdl_stack T 90) := o_5A h
  rw [cT_6 rfl rfl rfl rfl rfl rfl o.1, show mT T 90 = mC T 90 from rfl, mC_3 rfl rfl rfl o.2.1]
  exact R_12 o.2.2 rfl (Or.inl rfl)
theorem dd_91 {S T : Sc} (h : RR S T) : RR (cT S 91) (mT T 91) := by
  have o : KO (f_Prc_transfer S 91) (f_Mdl_transfer T 91) := o_5B h
  rw [cT_5 rfl rfl rfl rfl rfl o.1, show mT T 91 = mC T 91 from rfl, mC_2 rfl rfl o.2.1]
  exact R_12 o.2.2 rfl (Or.inl rfl)
theorem dd_92 {S T : Sc} (h : RR S T) : RR (cT S 92) (mT T 92) := by
  have o : KO (f_Prc_jump S 92) (f_Mdl_jump T 92) := o_5C h
  rw [cT_9 rfl rfl rfl rfl rfl rfl rfl rfl rfl o.1, show mT T 92 = mC T 92 from rfl, mC_4 rfl rfl rfl rfl o.2.1]
  exact R_12 o.2.2 rfl (Or.inl rfl)
theorem dd_93 {S T : Sc} (h : RR S T) : RR (cT S 93) (mT T 93) := by
  have o : KO (f_Prc_useAccumulator S 93) (f_Mdl_arithmetic T 93) := o_5D h
  rw [cT_0  o.1, show mT T 93 = mA T 93 from rfl, mA_0  o.2.1]
  exact R_12 o.2.2 rfl (Or.inl rfl)
theorem dd_94 {S T : Sc} (h : RR S T) : RR (cT S 94) (mT T 94) := by
  rw [cT_none rfl rfl rfl rfl rfl rfl rfl rfl rfl rfl rfl rfl, show mT T 94 = mC T 94 from rfl, mC_none rfl rfl rfl rfl rfl rfl]
  exact R_12 h rfl (Or.inr rfl)
theorem dd_95 {S T : Sc} (h : RR S T) : RR (cT S 95) (mT T 95) := by
  have o : KO (f_Prc_useAccumulator S 95) (f_Mdl_arithmetic T 95) := o_5F h
  rw [cT_0  o.1, show mT T 95 = mA T 95 from rfl, mA_0  o.2.1]
  exact R_12 o.2.2 rfl (Or.inl rfl)
theorem dd_96 {S T : Sc} (h : RR S T) : RR (cT S 96) (mT T 96) := by
  have o : KO (f_Prc_jump S 96) (f_Mdl_jump T 96) := o_60 h
  rw [cT_9 rfl rfl rfl rfl rfl rfl rfl rfl rfl o.1, show mT T 96 = mC T 96 from rfl, mC_4 rfl rfl rfl rfl o.2.1]
  exact R_12 o.2.2 rfl (Or.inl rfl)
theorem dd_97 {S T : Sc} (h : RR S T) : RR (cT S 97) (mT T 97) := by
  have o : KO (f_Prc_useAccumulator S 97) (f_Mdl_arithmetic T 97) := o_61 h
  rw [cT_0  o.1, show mT T 97 = mA T 97 from rfl, mA_0  o.2.1]
  exact R_12 o.2.2 rfl (Or.inl rfl)
theorem dd_98 {S T : Sc} (h : RR S T) : RR (cT S 98) (mT T 98) := by
  rw [cT_none rfl rfl rfl rfl rfl rfl rfl rfl rfl rfl rfl rfl, show mT T 98 = mC T 98 from rfl, mC_none rfl rfl rfl rfl rfl rfl]
  exact R_12 h rfl (Or.inr rfl)
theorem dd_99 {S T : Sc} (h : RR S T) : RR (cT S 99) (mT T 99) := by
  have o : KO (f_Prc_useAccumulator S 99) (f_Mdl_arithmetic T 99) := o_63 h
  rw [cT_0  o.1, show mT T 99 = mA T 99 from rfl, mA_0  o.2.1]
  exact R_12 o.2.2 rfl (Or.inl rfl)
theorem dd_100 {S T : Sc} (h : RR S T) : RR (cT S 100) (mT T 100) := by
  have o : KO (f_Prc_storeZero S 100) (f_Mdl_index T 100) := o_64 h
  rw [cT_2 rfl rfl o.1, show mT T 100 = mC T 100 from rfl, mC_1 rfl o.2.1]
  exact R_12 o.2.2 rfl (Or.inl rfl)
theorem dd_101 {S T : Sc} (h : RR S T) : RR (cT S 101) (mT T 101) := by
  have o : KO (f_Prc_useAccumulator S 101) (f_Mdl_arithmetic T 101) := o_65 h
  rw [cT_0  o.1, show mT T 101 = mA T 101 from rfl, mA_0  o.2.1]
  exact R_12 o.2.2 rfl (Or.inl rfl)
theorem dd_102 {S T : Sc} (h : RR S T) : RR (cT S 102) (mT T 102) := by
  have o : KO (f_Prc_changeMemory S 102) (f_Mdl_change T 102) := o_66 h
  rw [cT_3 rfl rfl rfl o.1, show mT T 102 = mC T 102 from rfl, mC_0  o.2.1]
  exact R_12 o.2.2 rfl (Or.inl rfl)
theorem dd_103 {S T : Sc} (h : RR S T) : RR (cT S 103) (mT T 103) := by
  have o : KO (f_Prc_useAccumulator S 103) (f_Mdl_arithmetic T 103) := o_67 h
  rw [cT_0  o.1, show mT T 103 = mA T 103 from rfl, mA_0  o.2.1]
  exact R_12 o.2.2 rfl (Or.inl rfl)
theorem dd_104 {S T : Sc} (h : RR S T) : RR (cT S 104) (mT T 104) := by
  have o : KO (f_Prc_pull S 104) (f_Mdl_stack T 104) := o_68 h
  rw [cT_7 rfl rfl rfl rfl rfl rfl rfl o.1, show mT T 104 = mC T 104 from rfl, mC_3 rfl rfl rfl o.2.1]
  exact R_12 o.2.2 rfl (Or.inl rfl)
theorem dd_105 {S T : Sc} (h : RR S T) : RR (cT S 105) (mT T 105) := by
  have o : KO (f_Prc_useAccumulator S 105) (f_Mdl_arithmetic T 105) := o_69 h
  rw [cT_0  o.1, show mT T 105 = mA T 105 from rfl, mA_0  o.2.1]
  exact R_12 o.2.2 rfl (Or.inl rfl)
theorem dd_106 {S T : Sc} (h : RR S T) : RR (cT S 106) (mT T 106) := by
  have o : KO (f_Prc_changeRegister S 106) (f_Mdl_change T 106) := o_6A h
  rw [cT_4 rfl rfl rfl rfl o.1, show mT T 106 = mC T 106 from rfl, mC_0  o.2.1]
  exact R_12 o.2.2 rfl (Or.inl rfl)
theorem dd_107 {S T : Sc} (h : RR S T) : RR (cT S 107) (mT T 107) := by
  have o : KO (f_Prc_jump S 107) (f_Mdl_jump T 107) := o_6B h
  rw [cT_9 rfl rfl rfl rfl rfl rfl rfl rfl rfl o.1, show mT T 107 = mC T 107 from rfl, mC_4 rfl rfl rfl rfl o.2.1]
  exact R_12 o.2.2 rfl (Or.inl rfl)
theorem dd_108 {S T : Sc} (h : RR S T) : RR (cT S 108) (mT T 108) := by
  rw [cT_none rfl rfl rfl rfl rfl rfl rfl rfl rfl rfl rfl rfl, show mT T 108 = mC T 108 from rfl, mC_none rfl rfl rfl rfl rfl rfl]
  exact R_12 h rfl (Or.inr rfl)
theorem dd_109 {S T : Sc} (h : RR S T) : RR (cT S 109) (mT T 109) := by
  have o : KO (f_Prc_useAccumulator S 109) (f_Mdl_arithmetic T 109) := o_6D h
  rw [cT_0  o.1, show mT T 109 = mA T 109 from rfl, mA_0  o.2.1]
  exact R_12 o.2.2 rfl (Or.inl rfl)
theorem dd_110 {S T : Sc} (h : RR S T) : RR (cT S 110) (mT T 110) := by
  rw [cT_none rfl rfl rfl rfl rfl rfl rfl rfl rfl rfl rfl rfl, show mT T 110 = mC T 110 from rfl, mC_none rfl rfl rfl rfl rfl rfl]
  exact R_12 h rfl (Or.inr rfl)
theorem dd_111 {S T : Sc} (h : RR S T) : RR (cT S 111) (mT T 111) := by
  have o : KO (f_Prc_useAccumulator S 111) (f_Mdl_arithmetic T 111) := o_6F h
  rw [cT_0  o.1, show mT T 111 = mA T 111 from rfl, mA_0  o.2.1]
  exact R_12 o.2.2 rfl (Or.inl rfl)
theorem dd_112 {S T : Sc} (h : RR S T) : RR (cT S 112) (mT T 112) := by
  have o : KO (f_Prc_branch S 112) (f_Mdl_jump T 112) := o_70 h
  rw [cT_8 rfl rfl rfl rfl rfl rfl rfl rfl o.1, show mT T 112 = mC T 112 from rfl, mC_4 rfl rfl rfl rfl o.2.1]
  exact R_12 o.2.2 rfl (Or.inl rfl)
theorem dd_113 {S T : Sc} (h : RR S T) : RR (cT S 113) (mT T 113) := by
  have o : KO (f_Prc_useAccumulator S 113) (f_Mdl_arithmetic T 113) := o_71 h
  rw [cT_0  o.1, show mT T 113 = mA T 113 from rfl, mA_0  o.2.1]
  exact R_12 o.2.2 rfl (Or.inl rfl)
theorem dd_114 {S T : Sc} (h : RR S T) : RR (cT S 114) (mT T 114) := by
  have o : KO (f_Prc_useAccumulator S 114) (f_Mdl_arithmetic T 114) := o_72 h
  rw [cT_0  o.1, show mT T 114 = mA T 114 from rfl, mA_0  o.2.1]
  exact R_12 o.2.2 rfl (Or.inl rfl)
theorem dd_115 {S T : Sc} (h : RR S T) : RR (cT S 115) (mT T 115) := by
  have o : KO (f_Prc_useAccumulator S 115) (f_Mdl_arithmetic T 115) := o_73 h
  rw [cT_0  o.1, show mT T 115 = mA T 115 from rfl, mA_0  o.2.1]
  exact R_12 o.2.2 rfl (Or.inl rfl)
theorem dd_116 {S T : Sc} (h : RR S T) : RR (cT S 116) (mT T 116) := by
  rw [cT_none rfl rfl rfl rfl rfl rfl rfl rfl rfl rfl rfl rfl, show mT T 116 = mC T 116 from rfl, mC_none rfl rfl rfl rfl rfl rfl]
  exact R_12 h rfl (Or.inr rfl)
theorem dd_117 {S T : Sc} (h : RR S T) : RR (cT S 117) (mT T 117) := by
  have o : KO (f_Prc_useAccumulator S 117) (f_Mdl_arithmetic T 117) := o_75 h
  rw [cT_0  o.1, show mT T 117 = mA T 117 from rfl, mA_0  o.2.1]
  exact R_12 o.2.2 rfl (Or.inl rfl)
theorem dd_118 {S T : Sc} (h : RR S T) : RR (cT S 118) (mT T 118) := by
  rw [cT_none rfl rfl rfl rfl rfl rfl rfl rfl rfl rfl rfl rfl, show mT T 118 = mC T 118 from rfl, mC_none rfl rfl rfl rfl rfl rfl]
  exact R_12 h rfl (Or.inr rfl)
theorem dd_119 {S T : Sc} (h : RR S T) : RR (cT S 119) (mT T 119) := by
  have o : KO (f_Prc_useAccumulator S 119) (f_Mdl_arithmetic T 119) := o_77 h
  rw [cT_0  o.1, show mT T 119 = mA T 119 from rfl, mA_0  o.2.1]
  exact R_12 o.2.2 rfl (Or.inl rfl)
theorem dd_120 {S T : Sc} (h : RR S T) : RR (cT S 120) (mT T 120) := by
  have o : KO (f_Prc_changeFlags S 120) (f_Mdl_other T 120) := o_78 h
  rw [cT_10 rfl rfl rfl rfl rfl rfl rfl rfl rfl rfl o.1, show mT T 120 = mC T 120 from rfl, mC_5 rfl rfl rfl rfl rfl o.2.1]
  exact R_12 o.2.2 rfl (Or.inl rfl)
theorem dd_121 {S T : Sc} (h : RR S T) : RR (cT S 121) (mT T 121) := by
  have o : KO (f_Prc_useAccumulator S 121) (f_Mdl_arithmetic T 121) := o_79 h
  rw [cT_0  o.1, show mT T 121 = mA T 121 from rfl, mA_0  o.2.1]
  exact R_12 o.2.2 rfl (Or.inl rfl)
theorem dd_122 {S T : Sc} (h : RR S T) : RR (cT S 122) (mT T 122) := by
  have o : KO (f_Prc_pull S 122) (f_Mdl_stack T 122) := o_7A h
  rw [cT_7 rfl rfl rfl rfl rfl rfl rfl o.1, show mT T 122 = mC T 122 from rfl, mC_3 rfl rfl rfl o.2.1]
  exact R_12 o.2.2 rfl (Or.inl rfl)
theorem dd_123 {S T : Sc} (h : RR S T) : RR (cT S 123) (mT T 123) := by
  have o : KO (f_Prc_transfer S 123) (f_Mdl_transfer T 123) := o_7B h
  rw [cT_5 rfl rfl rfl rfl rfl o.1, show mT T 123 = mC T 123 from rfl, mC_2 rfl rfl o.2.1]
  exact R_12 o.2.2 rfl (Or.inl rfl)
theorem dd_124 {S T : Sc} (h : RR S T) : RR (cT S 124) (mT T 124) := by
  rw [cT_none rfl rfl rfl rfl rfl rfl rfl rfl rfl rfl rfl rfl, show mT T 124 = mC T 124 from rfl, mC_none rfl rfl rfl rfl rfl rfl]
  exact R_12 h rfl (Or.inr rfl)
theorem dd_125 {S T : Sc} (h : RR S T) : RR (cT S 125) (mT T 125) := by
  have o : KO (f_Prc_useAccumulator S 125) (f_Mdl_arithmetic T 125) := o_7D h
  rw [cT_0  o.1, show mT T 125 = mA T 125 from rfl, mA_0  o.2.1]
  exact R_12 o.2.2 rfl (Or.inl rfl)
theorem dd_126 {S T : Sc} (h : RR S T) : RR (cT S 126) (mT T 126) := by
  rw [cT_none rfl rfl rfl rfl rfl rfl rfl rfl rfl rfl rfl rfl, show mT T 126 = mC T 126 from rfl, mC_none rfl rfl rfl rfl rfl rfl]
  exact R_12 h rfl (Or.inr rfl)
theorem dd_127 {S T : Sc} (h : RR S T) : RR (cT S 127) (mT T 127) := by
  have o : KO (f_Prc_useAccumulator S 127) (f_Mdl_arithmetic T 127) := o_7F h
  rw [cT_0  o.1, show mT T 127 = mA T 127 from rfl, mA_0  o.2.1]
  exact R_12 o.2.2 rfl (Or.inl rfl)
theorem dd_128 {S T : Sc} (h : RR S T) : RR (cT S 128) (mT T 128) := by
  have o : KO (f_Prc_branch S 128) (f_Mdl_jump T 128) := o_80 h
  rw [cT_8 rfl rfl rfl rfl rfl rfl rfl rfl o.1, show mT T 128 = mC T 128 from rfl, mC_4 rfl rfl rfl rfl o.2.1]
  exact R_12 o.2.2 rfl (Or.inl rfl)
theorem dd_129 {S T : Sc} (h : RR S T) : RR (cT S 129) (mT T 129) := by
  have o : KO (f_Prc_useAccumulator S 129) (f_Mdl_arithmetic T 129) := o_81 h
  rw [cT_0  o.1, show mT T 129 = mA T 129 from rfl, mA_0  o.2.1]
  exact R_12 o.2.2 rfl (Or.inl rfl)
theorem dd_130 {S T : Sc} (h : RR S T) : RR (cT S 130) (mT T 130) := by
  have o : KO (f_Prc_branch S 130) (f_Mdl_jump T 130) := o_82 h
  rw [cT_8 rfl rfl rfl rfl rfl rfl rfl rfl o.1, show mT T 130 = mC T 130 from rfl, mC_4 rfl rfl rfl rfl o.2.1]
  exact R_12 o.2.2 rfl (Or.inl rfl)
theorem dd_131 {S T : Sc} (h : RR S T) : RR (cT S 131) (mT T 131) := by
  have o : KO (f_Prc_useAccumulator S 131) (f_Mdl_arithmetic T 131) := o_83 h
  rw [cT_0  o.1, show mT T 131 = mA T 131 from rfl, mA_0  o.2.1]
  exact R_12 o.2.2 rfl (Or.inl rfl)
theorem dd_132 {S T : Sc} (h : RR S T) : RR (cT S 132) (mT T 132) := by
  have o : KO (f_Prc_useIndex S 132) (f_Mdl_index T 132) := o_84 h
  rw [cT_1 rfl o.1, show mT T 132 = mC T 132 from rfl, mC_1 rfl o.2.1]
  exact R_12 o.2.2 rfl (Or.inl rfl)
theorem dd_133 {S T : Sc} (h : RR S T) : RR (cT S 133) (mT T 133) := by
  have o : KO (f_Prc_useAccumulator S 133) (f_Mdl_arithmetic T 133) := o_85 h
  rw [cT_0  o.1, show mT T 133 = mA T 133 from rfl, mA_0  o.2.1]
  exact R_12 o.2.2 rfl (Or.inl rfl)
theorem dd_134 {S T : Sc} (h : RR S T) : RR (cT S 134) (mT T 134) := by
  have o : KO (f_Prc_useIndex S 134) (f_Mdl_index T 134) := o_86 h
  rw [cT_1 rfl o.1, show mT T 134 = mC T 134 from rfl, mC_1 rfl o.2.1]
  exact R_12 o.2.2 rfl (Or.inl rfl)
theorem dd_135 {S T : Sc} (h : RR S T) : RR (cT S 135) (mT T 135) := by
  have o : KO (f_Prc_useAccumulator S 135) (f_Mdl_arithmetic T 135) := o_87 h
  rw [cT_0  o.1, show mT T 135 = mA T 135 from rfl, mA_0  o.2.1]
  exact R_12 o.2.2 rfl (Or.inl rfl)
theorem dd_136 {S T : Sc} (h : RR S T) : RR (cT S 136) (mT T 136) := by
  have o : KO (f_Prc_changeRegister S 136) (f_Mdl_index T 136) := o_88 h
  rw [cT_4 rfl rfl rfl rfl o.1, show mT T 136 = mC T 136 from rfl, mC_1 rfl o.2.1]
  exact R_12 o.2.2 rfl (Or.inl rfl)
theorem dd_137 {S T : Sc} (h : RR S T) : RR (cT S 137) (mT T 137) := by
  rw [cT_none rfl rfl rfl rfl rfl rfl rfl rfl rfl rfl rfl rfl, show mT T 137 = mA T 137 from rfl, mA_none rfl]
  exact R_12 h rfl (Or.inr rfl)
theorem dd_138 {S T : Sc} (h : RR S T) : RR (cT S 138) (mT T 138) := by
  have o : KO (f_Prc_transfer S 138) (f_Mdl_transfer T 138) := o_8A h
  rw [cT_5 rfl rfl rfl rfl rfl o.1, show mT T 138 = mC T 138 from rfl, mC_2 rfl rfl o.2.1]
  exact R_12 o.2.2 rfl (Or.inl rfl)
theorem dd_139 {S T : Sc} (h : RR S T) : RR (cT S 139) (mT T 139) := by
  have o : KO (f_Prc_push S 139) (f_Mdl_stack T 139) := o_8B h
  rw [cT_6 rfl rfl rfl rfl rfl rfl o.1, show mT T 139 = mC T 139 from rfl, mC_3 rfl rfl rfl o.2.1]
  exact R_12 o.2.2 rfl (Or.inl rfl)
theorem dd_140 {S T : Sc} (h : RR S T) : RR (cT S 140) (mT T 140) := by
  have o : KO (f_Prc_useIndex S 140) (f_Mdl_index T 140) := o_8C h
  rw [cT_1 rfl o.1, show mT T 140 = mC T 140 from rfl, mC_1 rfl o.2.1]
  exact R_12 o.2.2 rfl (Or.inl rfl)
theorem dd_141 {S T : Sc} (h : RR S T) : RR (cT S 141) (mT T 141) := by
  have o : KO (f_Prc_useAccumulator S 141) (f_Mdl_arithmetic T 141) := o_8D h
  rw [cT_0  o.1, show mT T 141 = mA T 141 from rfl, mA_0  o.2.1]
  exact R_12 o.2.2 rfl (Or.inl rfl)
theorem dd_142 {S T : Sc} (h : RR S T) : RR (cT S 142) (mT T 142) := by
  have o : KO (f_Prc_useIndex S 142) (f_Mdl_index T 142) := o_8E h
  rw [cT_1 rfl o.1, show mT T 142 = mC T 142 from rfl, mC_1 rfl o.2.1]
  exact R_12 o.2.2 rfl (Or.inl rfl)
theorem dd_143 {S T : Sc} (h : RR S T) : RR (cT S 143) (mT T 143) := by
  have o : KO (f_Prc_useAccumulator S 143) (f_Mdl_arithmetic T 143) := o_8F h
  rw [cT_0  o.1, show mT T 143 = mA T 143 from rfl, mA_0  o.2.1]
  exact R_12 o.2.2 rfl (Or.inl rfl)
theorem dd_144 {S T : Sc} (h : RR S T) : RR (cT S 144) (mT T 144) := by
  have o : KO (f_Prc_branch S 144) (f_Mdl_jump T 144) := o_90 h
  rw [cT_8 rfl rfl rfl rfl rfl rfl rfl rfl o.1, show mT T 144 = mC T 144 from rfl, mC_4 rfl rfl rfl rfl o.2.1]
  exact R_12 o.2.2 rfl (Or.inl rfl)
theorem dd_145 {S T : Sc} (h : RR S T) : RR (cT S 145) (mT T 145) := by
  have o : KO (f_Prc_useAccumulator S 145) (f_Mdl_arithmetic T 145) := o_91 h
  rw [cT_0  o.1, show mT T 145 = mA T 145 from rfl, mA_0  o.2.1]
  exact R_12 o.2.2 rfl (Or.inl rfl)
theorem dd_146 {S T : Sc} (h : RR S T) : RR (cT S 146) (mT T 146) := by
  have o : KO (f_Prc_useAccumulator S 146) (f_Mdl_arithmetic T 146) := o_92 h
  rw [cT_0  o.1, show mT T 146 = mA T 146 from rfl, mA_0  o.2.1]
  exact R_12 o.2.2 rfl (Or.inl rfl)
theorem dd_147 {S T : Sc} (h : RR S T) : RR (cT S 147) (mT T 147) := by
  have o : KO (f_Prc_useAccumulator S 147) (f_Mdl_arithmetic T 147) := o_93 h
  rw [cT_0  o.1, show mT T 147 = mA T 147 from rfl, mA_0  o.2.1]
  exact R_12 o.2.2 rfl (Or.inl rfl)
theorem dd_148 {S T : Sc} (h : RR S T) : RR (cT S 148) (mT T 148) := by
  rw [cT_none rfl rfl rfl rfl rfl rfl rfl rfl rfl rfl rfl rfl, show mT T 148 = mC T 148 from rfl, mC_none rfl rfl rfl rfl rfl rfl]
  exact R_12 h rfl (Or.inr rfl)
theorem dd_149 {S T : Sc} (h : RR S T) : RR (cT S 149) (mT T 149) := by
  have o : KO (f_Prc_useAccumulator S 149) (f_Mdl_arithmetic T 149) := o_95 h
  rw [cT_0  o.1, show mT T 149 = mA T 149 from rfl, mA_0  o.2.1]
  exact R_12 o.2.2 rfl (Or.inl rfl)
theorem dd_150 {S T : Sc} (h : RR S T) : RR (cT S 150) (mT T 150) := by
  rw [cT_none rfl rfl rfl rfl rfl rfl rfl rfl rfl rfl rfl rfl, show mT T 150 = mC T 150 from rfl, mC_none rfl rfl rfl rfl rfl rfl]
  exact R_12 h rfl (Or.inr rfl)
theorem dd_151 {S T : Sc} (h : RR S T) : RR (cT S 151) (mT T 151) := by
  have o : KO (f_Prc_useAccumulator S 151) (f_Mdl_arithmetic T 151) := o_97 h
  rw [cT_0  o.1, show mT T 151 = mA T 151 from rfl, mA_0  o.2.1]
  exact R_12 o.2.2 rfl (Or.inl rfl)
theorem dd_152 {S T : Sc} (h : RR S T) : RR (cT S 152) (mT T 152) := by
  have o : KO (f_Prc_transfer S 152) (f_Mdl_transfer T 152) := o_98 h
  rw [cT_5 rfl rfl rfl rfl rfl o.1, show mT T 152 = mC T 152 from rfl, mC_2 rfl rfl o.2.1]
  exact R_12 o.2.2 rfl (Or.inl rfl)
theorem dd_153 {S T : Sc} (h : RR S T) : RR (cT S 153) (mT T 153) := by
  have o : KO (f_Prc_useAccumulator S 153) (f_Mdl_arithmetic T 153) := o_99 h
  rw [cT_0  o.1, show mT T 153 = mA T 153 from rfl, mA_0  o.2.1]
  exact R_12 o.2.2 rfl (Or.inl rfl)
theorem dd_154 {S T : Sc} (h : RR S T) : RR (cT S 154) (mT T 154) := by
  have o : KO (f_Prc_transfer S 154) (f_Mdl_transfer T 154) := o_9A h
  rw [cT_5 rfl rfl rfl rfl rfl o.1, show mT T 154 = mC T 154 from rfl, mC_2 rfl rfl o.2.1]
  exact R_12 o.2.2 rfl (Or.inl rfl)
theorem dd_155 {S T : Sc} (h : RR S T) : RR (cT S 155) (mT T 155) := by
  have o : KO (f_Prc_transfer S 155) (f_Mdl_transfer T 155) := o_9B h
  rw [cT_5 rfl rfl rfl rfl rfl o.1, show mT T 155 = mC T 155 from rfl, mC_2 rfl rfl o.2.1]
  exact R_12 o.2.2 rfl (Or.inl rfl)
theorem dd_156 {S T : Sc} (h : RR S T) : RR (cT S 156) (mT T 156) := by
  have o : KO (f_Prc_storeZero S 156) (f_Mdl_index T 156) := o_9C h
  rw [cT_2 rfl rfl o.1, show mT T 156 = mC T 156 from rfl, mC_1 rfl o.2.1]
  exact R_12 o.2.2 rfl (Or.inl rfl)
theorem dd_157 {S T : Sc} (h : RR S T) : RR (cT S 157) (mT T 157) := by
  have o : KO (f_Prc_useAccumulator S 157) (f_Mdl_arithmetic T 157) := o_9D h
  rw [cT_0  o.1, show mT T 157 = mA T 157 from rfl, mA_0  o.2.1]
  exact R_12 o.2.2 rfl (Or.inl rfl)
theorem dd_158 {S T : Sc} (h : RR S T) : RR (cT S 158) (mT T 158) := by
  rw [cT_none rfl rfl rfl rfl rfl rfl rfl rfl rfl rfl rfl rfl, show mT T 158 = mC T 158 from rfl, mC_none rfl rfl rfl rfl rfl rfl]
  exact R_12 h rfl (Or.inr rfl)
theorem dd_159 {S T : Sc} (h : RR S T) : RR (cT S 159) (mT T 159) := by
  have o : KO (f_Prc_useAccumulator S 159) (f_Mdl_arithmetic T 159) := o_9F h
  rw [cT_0  o.1, show mT T 159 = mA T 159 from rfl, mA_0  o.2.1]
  exact R_12 o.2.2 rfl (Or.inl rfl)
theorem dd_160 {S T : Sc} (h : RR S T) : RR (cT S 160) (mT T 160) := by
  have o : KO (f_Prc_useIndex S 160) (f_Mdl_index T 160) := o_A0 h
  rw [cT_1 rfl o.1, show mT T 160 = mC T 160 from rfl, mC_1 rfl o.2.1]
  exact R_12 o.2.2 rfl (Or.inl rfl)
theorem dd_161 {S T : Sc} (h : RR S T) : RR (cT S 161) (mT T 161) := by
  have o : KO (f_Prc_useAccumulator S 161) (f_Mdl_arithmetic T 161) := o_A1 h
  rw [cT_0  o.1, show mT T 161 = mA T 161 from rfl, mA_0  o.2.1]
  exact R_12 o.2.2 rfl (Or.inl rfl)
theorem dd_162 {S T : Sc} (h : RR S T) : RR (cT S 162) (mT T 162) := by
  have o : KO (f_Prc_useIndex S 162) (f_Mdl_index T 162) := o_A2 h
  rw [cT_1 rfl o.1, show mT T 162 = mC T 162 from rfl, mC_1 rfl o.2.1]
  exact R_12 o.2.2 rfl (Or.inl rfl)
theorem dd_163 {S T : Sc} (h : RR S T) : RR (cT S 163) (mT T 163) := by
  have o : KO (f_Prc_useAccumulator S 163) (f_Mdl_arithmetic T 163) := o_A3 h
  rw [cT_0  o.1, show mT T 163 = mA T 163 from rfl, mA_0  o.2.1]
  exact R_12 o.2.2 rfl (Or.inl rfl)
theorem dd_164 {S T : Sc} (h : RR S T) : RR (cT S 164) (mT T 164) := by
  have o : KO (f_Prc_useIndex S 164) (f_Mdl_index T 164) := o_A4 h
  rw [cT_1 rfl o.1, show mT T 164 = mC T 164 from rfl, mC_1 rfl o.2.1]
  exact R_12 o.2.2 rfl (Or.inl rfl)
theorem dd_165 {S T : Sc} (h : RR S T) : RR (cT S 165) (mT T 165) := by
  have o : KO (f_Prc_useAccumulator S 165) (f_Mdl_arithmetic T 165) := o_A5 h
  rw [cT_0  o.1, show mT T 165 = mA T 165 from rfl, mA_0  o.2.1]
  exact R_12 o.2.2 rfl (Or.inl rfl)
theorem dd_166 {S T : Sc} (h : RR S T) : RR (cT S 166) (mT T 166) := by
  have o : KO (f_Prc_useIndex S 166) (f_Mdl_index T 166) := o_A6 h
  rw [cT_1 rfl o.1, show mT T 166 = mC T 166 from rfl, mC_1 rfl o.2.1]
  exact R_12 o.2.2 rfl (Or.inl rfl)
theorem dd_167 {S T : Sc} (h : RR S T) : RR (cT S 167) (mT T 167) := by
  have o : KO (f_Prc_useAccumulator S 167) (f_Mdl_arithmetic T 167) := o_A7 h
  rw [cT_0  o.1, show mT T 167 = mA T 167 from rfl, mA_0  o.2.1]
  exact R_12 o.2.2 rfl (Or.inl rfl)
theorem dd_168 {S T : Sc} (h : RR S T) : RR (cT S 168) (mT T 168) := by
  have o : KO (f_Prc_transfer S 168) (f_Mdl_transfer T 168) := o_A8 h
  rw [cT_5 rfl rfl rfl rfl rfl o.1, show mT T 168 = mC T 168 from rfl, mC_2 rfl rfl o.2.1]
  exact R_12 o.2.2 rfl (Or.inl rfl)
theorem dd_169 {S T : Sc} (h : RR S T) : RR (cT S 169) (mT T 169) := by
  have o : KO (f_Prc_useAccumulator S 169) (f_Mdl_arithmetic T 169) := o_A9 h
  rw [cT_0  o.1, show mT T 169 = mA T 169 from rfl, mA_0  o.2.1]
  exact R_12 o.2.2 rfl (Or.inl rfl)
theorem dd_170 {S T : Sc} (h : RR S T) : RR (cT S 170) (mT T 170) := by
  have o : KO (f_Prc_transfer S 170) (f_Mdl_transfer T 170) := o_AA h
  rw [cT_5 rfl rfl rfl rfl rfl o.1, show mT T 170 = mC T 170 from rfl, mC_2 rfl rfl o.2.1]
  exact R_12 o.2.2 rfl (Or.inl rfl)
theorem dd_171 {S T : Sc} (h : RR S T) : RR (cT S 171) (mT T 171) := by
  have o : KO (f_Prc_pull S 171) (f_Mdl_stack T 171) := o_AB h
  rw [cT_7 rfl rfl rfl rfl rfl rfl rfl o.1, show mT T 171 = mC T 171 from rfl, mC_3 rfl rfl rfl o.2.1]
  exact R_12 o.2.2 rfl (Or.inl rfl)
theorem dd_172 {S T : Sc} (h : RR S T) : RR (cT S 172) (mT T 172) := by
  have o : KO (f_Prc_useIndex S 172) (f_Mdl_index T 172) := o_AC h
  rw [cT_1 rfl o.1, show mT T 172 = mC T 172 from rfl, mC_1 rfl o.2.1]
  exact R_12 o.2.2 rfl (Or.inl rfl)
theorem dd_173 {S T : Sc} (h : RR S T) : RR (cT S 173) (mT T 173) := by
  have o : KO (f_Prc_useAccumulator S 173) (f_Mdl_arithmetic T 173) := o_AD h
  rw [cT_0  o.1, show mT T 173 = mA T 173 from rfl, mA_0  o.2.1]
  exact R_12 o.2.2 rfl (Or.inl rfl)
theorem dd_174 {S T : Sc} (h : RR S T) : RR (cT S 174) (mT T 174) := by
  have o : KO (f_Prc_useIndex S 174) (f_Mdl_index T 174) := o_AE h
  rw [cT_1 rfl o.1, show mT T 174 = mC T 174 from rfl, mC_1 rfl o.2.1]
  exact R_12 o.2.2 rfl (Or.inl rfl)
theorem dd_175 {S T : Sc} (h : RR S T) : RR (cT S 175) (mT T 175) := by
  have o : KO (f_Prc_useAccumulator S 175) (f_Mdl_arithmetic T 175) := o_AF h
  rw [cT_0  o.1, show mT T 175 = mA T 175 from rfl, mA_0  o.2.1]
  exact R_12 o.2.2 rfl (Or.inl rfl)
theorem dd_176 {S T : Sc} (h : RR S T) : RR (cT S 176) (mT T 176) := by
  have o : KO (f_Prc_branch S 176) (f_Mdl_jump T 176) := o_B0 h
  rw [cT_8 rfl rfl rfl rfl rfl rfl rfl rfl o.1, show mT T 176 = mC T 176 from rfl, mC_4 rfl rfl rfl rfl o.2.1]
  exact R_12 o.2.2 rfl (Or.inl rfl)
theorem dd_177 {S T : Sc} (h : RR S T) : RR (cT S 177) (mT T 177) := by
  have o : KO (f_Prc_useAccumulator S 177) (f_Mdl_arithmetic T 177) := o_B1 h
  rw [cT_0  o.1, show mT T 177 = mA T 177 from rfl, mA_0  o.2.1]
  exact R_12 o.2.2 rfl (Or.inl rfl)
theorem dd_178 {S T : Sc} (h : RR S T) : RR (cT S 178) (mT T 178) := by
  have o : KO (f_Prc_useAccumulator S 178) (f_Mdl_arithmetic T 178) := o_B2 h
  rw [cT_0  o.1, show mT T 178 = mA T 178 from rfl, mA_0  o.2.1]
  exact R_12 o.2.2 rfl (Or.inl rfl)
theorem dd_179 {S T : Sc} (h : RR S T) : RR (cT S 179) (mT T 179) := by
  have o : KO (f_Prc_useAccumulator S 179) (f_Mdl_arithmetic T 179) := o_B3 h
  rw [cT_0  o.1, show mT T 179 = mA T 179 from rfl, mA_0  o.2.1]
  exact R_12 o.2.2 rfl (Or.inl rfl)
theorem dd_180 {S T : Sc} (h : RR S T) : RR (cT S 180) (mT T 180) := by
  rw [cT_none rfl rfl rfl rfl rfl rfl rfl rfl rfl rfl rfl rfl, show mT T 180 = mC T 180 from rfl, mC_none rfl rfl rfl rfl rfl rfl]
  exact R_12 h rfl (Or.inr rfl)
theorem dd_181 {S T : Sc} (h : RR S T) : RR (cT S 181) (mT T 181) := by
  have o : KO (f_Prc_useAccumulator S 181) (f_Mdl_arithmetic T 181) := o_B5 h
  rw [cT_0  o.1, show mT T 181 = mA T 181 from rfl, mA_0  o.2.1]
  exact R_12 o.2.2 rfl (Or.inl rfl)
theorem dd_182 {S T : Sc} (h : RR S T) : RR (cT S 182) (mT T 182) := by
  rw [cT_none rfl rfl rfl rfl rfl rfl rfl rfl rfl rfl rfl rfl, show mT T 182 = mC T 182 from rfl, mC_none rfl rfl rfl rfl rfl rfl]
  exact R_12 h rfl (Or.inr rfl)
theorem dd_183 {S T : Sc} (h : RR S T) : RR (cT S 183) (mT T 183) := by
  have o : KO (f_Prc_useAccumulator S 183) (f_Mdl_arithmetic T 183) := o_B7 h
  rw [cT_0  o.1, show mT T 183 = mA T 183 from rfl, mA_0  o.2.1]
  exact R_12 o.2.2 rfl (Or.inl rfl)
theorem dd_184 {S T : Sc} (h : RR S T) : RR (cT S 184) (mT T 184) := by
  have o : KO (f_Prc_changeFlags S 184) (f_Mdl_other T 184) := o_B8 h
  rw [cT_10 rfl rfl rfl rfl rfl rfl rfl rfl rfl rfl o.1, show mT T 184 = mC T 184 from rfl, mC_5 rfl rfl rfl rfl rfl o.2.1]
  exact R_12 o.2.2 rfl (Or.inl rfl)
theorem dd_185 {S T : Sc} (h : RR S T) : RR (cT S 185) (mT T 185) := by
  have o : KO (f_Prc_useAccumulator S 185) (f_Mdl_arithmetic T 185) := o_B9 h
  rw [cT_0  o.1, show mT T 185 = mA T 185 from rfl, mA_0  o.2.1]
  exact R_12 o.2.2 rfl (Or.inl rfl)
theorem dd_186 {S T : Sc} (h : RR S T) : RR (cT S 186) (mT T 186) := by
  have o : KO (f_Prc_transfer S 186) (f_Mdl_transfer T 186) := o_BA h
  rw [cT_5 rfl rfl rfl rfl rfl o.1, show mT T 186 = mC T 186 from rfl, mC_2 rfl rfl o.2.1]
  exact R_12 o.2.2 rfl (Or.inl rfl)
theorem dd_187 {S T : Sc} (h : RR S T) : RR (cT S 187) (mT T 187) := by
  have o : KO (f_Prc_transfer S 187) (f_Mdl_transfer T 187) := o_BB h
  rw [cT_5 rfl rfl rfl rfl rfl o.1, show mT T 187 = mC T 187 from rfl, mC_2 rfl rfl o.2.1]
  exact R_12 o.2.2 rfl (Or.inl rfl)
theorem dd_188 {S T : Sc} (h : RR S T) : RR (cT S 188) (mT T 188) := by
  rw [cT_none rfl rfl rfl rfl rfl rfl rfl rfl rfl rfl rfl rfl, show mT T 188 = mC T 188 from rfl, mC_none rfl rfl rfl rfl rfl rfl]
  exact R_12 h rfl (Or.inr rfl)
theorem dd_189 {S T : Sc} (h : RR S T) : RR (cT S 189) (mT T 189) := by
  have o : KO (f_Prc_useAccumulator S 189) (f_Mdl_arithmetic T 189) := o_BD h
  rw [cT_0  o.1, show mT T 189 = mA T 189 from rfl, mA_0  o.2.1]
  exact R_12 o.2.2 rfl (Or.inl rfl)
theorem dd_190 {S T : Sc} (h : RR S T) : RR (cT S 190) (mT T 190) := by
  rw [cT_none rfl rfl rfl rfl rfl rfl rfl rfl rfl rfl rfl rfl, show mT T 190 = mC T 190 from rfl, mC_none rfl rfl rfl rfl rfl rfl]
  exact R_12 h rfl (Or.inr rfl)
theorem dd_191 {S T : Sc} (h : RR S T) : RR (cT S 191) (mT T 191) := by
  have o : KO (f_Prc_useAccumulator S 191) (f_Mdl_arithmetic T 191) := o_BF h
  rw [cT_0  o.1, show mT T 191 = mA T 191 from rfl, mA_0  o.2.1]
  exact R_12 o.2.2 rfl (Or.inl rfl)
theorem dd_192 {S T : Sc} (h : RR S T) : RR (cT S 192) (mT T 192) := by
  have o : KO (f_Prc_useIndex S 192) (f_Mdl_index T 192) := o_C0 h
  rw [cT_1 rfl o.1, show mT T 192 = mC T 192 from rfl, mC_1 rfl o.2.1]
  exact R_12 o.2.2 rfl (Or.inl rfl)
theorem dd_193 {S T : Sc} (h : RR S T) : RR (cT S 193) (mT T 193) := by
  have o : KO (f_Prc_useAccumulator S 193) (f_Mdl_arithmetic T 193) := o_C1 h
  rw [cT_0  o.1, show mT T 193 = mA T 193 from rfl, mA_0  o.2.1]
  exact R_12 o.2.2 rfl (Or.inl rfl)
theorem dd_194 {S T : Sc} (h : RR S T) : RR (cT S 194) (mT T 194) := by
  have o : KO (f_Prc_changeFlags S 194) (f_Mdl_other T 194) := o_C2 h
  rw [cT_10 rfl rfl rfl rfl rfl rfl rfl rfl rfl rfl o.1, show mT T 194 = mC T 194 from rfl, mC_5 rfl rfl rfl rfl rfl o.2.1]
  exact R_12 o.2.2 rfl (Or.inl rfl)
theorem dd_195 {S T : Sc} (h : RR S T) : RR (cT S 195) (mT T 195) := by
  have o : KO (f_Prc_useAccumulator S 195) (f_Mdl_arithmetic T 195) := o_C3 h
  rw [cT_0  o.1, show mT T 195 = mA T 195 from rfl, mA_0  o.2.1]
  exact R_12 o.2.2 rfl (Or.inl rfl)
theorem dd_196 {S T : Sc} (h : RR S T) : RR (cT S 196) (mT T 196) := by
  rw [cT_none rfl rfl rfl rfl rfl rfl rfl rfl rfl rfl rfl rfl, show mT T 196 = mC T 196 from rfl, mC_none rfl rfl rfl rfl rfl rfl]
  exact R_12 h rfl (Or.inr rfl)
theorem dd_197 {S T : Sc} (h : RR S T) : RR (cT S 197) (mT T 197) := by
  have o : KO (f_Prc_useAccumulator S 197) (f_Mdl_arithmetic T 197) := o_C5 h
  rw [cT_0  o.1, show mT T 197 = mA T 197 from rfl, mA_0  o.2.1]
  exact R_12 o.2.2 rfl (Or.inl rfl)
theorem dd_198 {S T : Sc} (h : RR S T) : RR (cT S 198) (mT T 198) := by
  have o : KO (f_Prc_changeMemory S 198) (f_Mdl_change T 198) := o_C6 h
  rw [cT_3 rfl rfl rfl o.1, show mT T 198 = mC T 198 from rfl, mC_0  o.2.1]
  exact R_12 o.2.2 rfl (Or.inl rfl)
theorem dd_199 {S T : Sc} (h : RR S T) : RR (cT S 199) (mT T 199) := by
  have o : KO (f_Prc_useAccumulator S 199) (f_Mdl_arithmetic T 199) := o_C7 h
  rw [cT_0  o.1, show mT T 199 = mA T 199 from rfl, mA_0  o.2.1]
  exact R_12 o.2.2 rfl (Or.inl rfl)
theorem dd_200 {S T : Sc} (h : RR S T) : RR (cT S 200) (mT T 200) := by
  have o : KO (f_Prc_changeRegister S 200) (f_Mdl_index T 200) := o_C8 h
  rw [cT_4 rfl rfl rfl rfl o.1, show mT T 200 = mC T 200 from rfl, mC_1 rfl o.2.1]
  exact R_12 o.2.2 rfl (Or.inl rfl)
theorem dd_201 {S T : Sc} (h : RR S T) : RR (cT S 201) (mT T 201) := by
  have o : KO (f_Prc_useAccumulator S 201) (f_Mdl_arithmetic T 201) := o_C9 h
  rw [cT_0  o.1, show mT T 201 = mA T 201 from rfl, mA_0  o.2.1]
  exact R_12 o.2.2 rfl (Or.inl rfl)
theorem dd_202 {S T : Sc} (h : RR S T) : RR (cT S 202) (mT T 202) := by
  have o : KO (f_Prc_changeRegister S 202) (f_Mdl_index T 202) := o_CA h
  rw [cT_4 rfl rfl rfl rfl o.1, show mT T 202 = mC T 202 from rfl, mC_1 rfl o.2.1]
  exact R_12 o.2.2 rfl (Or.inl rfl)
theorem dd_203 {S T : Sc} (h : RR S T) : RR (cT S 203) (mT T 203) := by
  rw [cT_none rfl rfl rfl rfl rfl rfl rfl rfl rfl rfl rfl rfl, show mT T 203 = mC T 203 from rfl, mC_none rfl rfl rfl rfl rfl rfl]
  exact R_12 h rfl (Or.inr rfl)
theorem dd_204 {S T : Sc} (h : RR S T) : RR (cT S 204) (mT T 204) := by
  rw [cT_none rfl rfl rfl rfl rfl rfl rfl rfl rfl rfl rfl rfl, show mT T 204 = mC T 204 from rfl, mC_none rfl rfl rfl rfl rfl rfl]
  exact R_12 h rfl (Or.inr rfl)
theorem dd_205 {S T : Sc} (h : RR S T) : RR (cT S 205) (mT T 205) := by
  have o : KO (f_Prc_useAccumulator S 205) (f_Mdl_arithmetic T 205) := o_CD h
  rw [cT_0  o.1, show mT T 205 = mA T 205 from rfl, mA_0  o.2.1]
  exact R_12 o.2.2 rfl (Or.inl rfl)
theorem dd_206 {S T : Sc} (h : RR S T) : RR (cT S 206) (mT T 206) := by
  have o : KO (f_Prc_changeMemory S 206) (f_Mdl_change T 206) := o_CE h
  rw [cT_3 rfl rfl rfl o.1, show mT T 206 = mC T 206 from rfl, mC_0  o.2.1]
  exact R_12 o.2.2 rfl (Or.inl rfl)
theorem dd_207 {S T : Sc} (h : RR S T) : RR (cT S 207) (mT T 207) := by
  have o : KO (f_Prc_useAccumulator S 207) (f_Mdl_arithmetic T 207) := o_CF h
  rw [cT_0  o.1, show mT T 207 = mA T 207 from rfl, mA_0  o.2.1]
  exact R_12 o.2.2 rfl (Or.inl rfl)
theorem dd_208 {S T : Sc} (h : RR S T) : RR (cT S 208) (mT T 208) := by
  have o : KO (f_Prc_branch S 208) (f_Mdl_jump T 208) := o_D0 h
  rw [cT_8 rfl rfl rfl rfl rfl rfl rfl rfl o.1, show mT T 208 = mC T 208 from rfl, mC_4 rfl rfl rfl rfl o.2.1]
  exact R_12 o.2.2 rfl (Or.inl rfl)
theorem dd_209 {S T : Sc} (h : RR S T) : RR (cT S 209) (mT T 209) := by
  have o : KO (f_Prc_useAccumulator S 209) (f_Mdl_arithmetic T 209) := o_D1 h
  rw [cT_0  o.1, show mT T 209 = mA T 209 from rfl, mA_0  o.2.1]
  exact R_12 o.2.2 rfl (Or.inl rfl)
theorem dd_210 {S T : Sc} (h : RR S T) : RR (cT S 210) (mT T 210) := by
  have o : KO (f_Prc_useAccumulator S 210) (f_Mdl_arithmetic T 210) := o_D2 h
  rw [cT_0  o.1, show mT T 210 = mA T 210 from rfl, mA_0  o.2.1]
  exact R_12 o.2.2 rfl (Or.inl rfl)
theorem dd_211 {S T : Sc} (h : RR S T) : RR (cT S 211) (mT T 211) := by
  have o : KO (f_Prc_useAccumulator S 211) (f_Mdl_arithmetic T 211) := o_D3 h
  rw [cT_0  o.1, show mT T 211 = mA T 211 from rfl, mA_0  o.2.1]
  exact R_12 o.2.2 rfl (Or.inl rfl)
theorem dd_212 {S T : Sc} (h : RR S T) : RR (cT S 212) (mT T 212) := by
  rw [cT_none rfl rfl rfl rfl rfl rfl rfl rfl rfl rfl rfl rfl, show mT T 212 = mC T 212 from rfl, mC_none rfl rfl rfl rfl rfl rfl]
  exact R_12 h rfl (Or.inr rfl)
theorem dd_213 {S T : Sc} (h : RR S T) : RR (cT S 213) (mT T 213) := by
  have o : KO (f_Prc_useAccumulator S 213) (f_Mdl_arithmetic T 213) := o_D5 h
  rw [cT_0  o.1, show mT T 213 = mA T 213 from rfl, mA_0  o.2.1]
  exact R_12 o.2.2 rfl (Or.inl rfl)
theorem dd_214 {S T : Sc} (h : RR S T) : RR (cT S 214) (mT T 214) := by
  rw [cT_none rfl rfl rfl rfl rfl rfl rfl rfl rfl rfl rfl rfl, show mT T 214 = mC T 214 from rfl, mC_none rfl rfl rfl rfl rfl rfl]
  exact R_12 h rfl (Or.inr rfl)
theorem dd_215 {S T : Sc} (h : RR S T) : RR (cT S 215) (mT T 215) := by
  have o : KO (f_Prc_useAccumulator S 215) (f_Mdl_arithmetic T 215) := o_D7 h
  rw [cT_0  o.1, show mT T 215 = mA T 215 from rfl, mA_0  o.2.1]
  exact R_12 o.2.2 rfl (Or.inl rfl)
theorem dd_216 {S T : Sc} (h : RR S T) : RR (cT S 216) (mT T 216) := by
  have o : KO (f_Prc_changeFlags S 216) (f_Mdl_other T 216) := o_D8 h
  rw [cT_10 rfl rfl rfl rfl rfl rfl rfl rfl rfl rfl o.1, show mT T 216 = mC T 216 from rfl, mC_5 rfl rfl rfl rfl rfl o.2.1]
  exact R_12 o.2.2 rfl (Or.inl rfl)
theorem dd_217 {S T : Sc} (h : RR S T) : RR (cT S 217) (mT T 217) := by
  have o : KO (f_Prc_useAccumulator S 217) (f_Mdl_arithmetic T 217) := o_D9 h
  rw [cT_0  o.1, show mT T 217 = mA T 217 from rfl, mA_0  o.2.1]
  exact R_12 o.2.2 rfl (Or.inl rfl)
theorem dd_218 {S T : Sc} (h : RR S T) : RR (cT S 218) (mT T 218) := by
  have o : KO (f_Prc_push S 218) (f_Mdl_stack T 218) := o_DA h
  rw [cT_6 rfl rfl rfl rfl rfl rfl o.1, show mT T 218 = mC T 218 from rfl, mC_3 rfl rfl rfl o.2.1]
  exact R_12 o.2.2 rfl (Or.inl rfl)
theorem dd_219 {S T : Sc} (h : RR S T) : RR (cT S 219) (mT T 219) := by
  rw [cT_none rfl rfl rfl rfl rfl rfl rfl rfl rfl rfl rfl rfl, show mT T 219 = mC T 219 from rfl, mC_none rfl rfl rfl rfl rfl rfl]
  exact R_12 h rfl (Or.inr rfl)
theorem dd_220 {S T : Sc} (h : RR S T) : RR (cT S 220) (mT T 220) := by
  rw [cT_none rfl rfl rfl rfl rfl rfl rfl rfl rfl rfl rfl rfl, show mT T 220 = mC T 220 from rfl, mC_none rfl rfl rfl rfl rfl rfl]
  exact R_12 h rfl (Or.inr rfl)
theorem dd_221 {S T : Sc} (h : RR S T) : RR (cT S 221) (mT T 221) := by
  have o : KO (f_Prc_useAccumulator S 221) (f_Mdl_arithmetic T 221) := o_DD h
  rw [cT_0  o.1, show mT T 221 = mA T 221 from rfl, mA_0  o.2.1]
  exact R_12 o.2.2 rfl (Or.inl rfl)
theorem dd_222 {S T : Sc} (h : RR S T) : RR (cT S 222) (mT T 222) := by
  rw [cT_none rfl rfl rfl rfl rfl rfl rfl rfl rfl rfl rfl rfl, show mT T 222 = mC T 222 from rfl, mC_none rfl rfl rfl rfl rfl rfl]
  exact R_12 h rfl (Or.inr rfl)
theorem dd_223 {S T : Sc} (h : RR S T) : RR (cT S 223) (mT T 223) := by
  have o : KO (f_Prc_useAccumulator S 223) (f_Mdl_arithmetic T 223) := o_DF h
  rw [cT_0  o.1, show mT T 223 = mA T 223 from rfl, mA_0  o.2.1]
  exact R_12 o.2.2 rfl (Or.inl rfl)
theorem dd_224 {S T : Sc} (h : RR S T) : RR (cT S 224) (mT T 224) := by
  have o : KO (f_Prc_useIndex S 224) (f_Mdl_index T 224) := o_E0 h
  rw [cT_1 rfl o.1, show mT T 224 = mC T 224 from rfl, mC_1 rfl o.2.1]
  exact R_12 o.2.2 rfl (Or.inl rfl)
theorem dd_225 {S T : Sc} (h : RR S T) : RR (cT S 225) (mT T 225) := by
  have o : KO (f_Prc_useAccumulator S 225) (f_Mdl_arithmetic T 225) := o_E1 h
  rw [cT_0  o.1, show mT T 225 = mA T 225 from rfl, mA_0  o.2.1]
  exact R_12 o.2.2 rfl (Or.inl rfl)
theorem dd_226 {S T : Sc} (h : RR S T) : RR (cT S 226) (mT T 226) := by
  have o : KO (f_Prc_changeFlags S 226) (f_Mdl_other T 226) := o_E2 h
  rw [cT_10 rfl rfl rfl rfl rfl rfl rfl rfl rfl rfl o.1, show mT T 226 = mC T 226 from rfl, mC_5 rfl rfl rfl rfl rfl o.2.1]
  exact R_12 o.2.2 rfl (Or.inl rfl)
theorem dd_227 {S T : Sc} (h : RR S T) : RR (cT S 227) (mT T 227) := by
  have o : KO (f_Prc_useAccumulator S 227) (f_Mdl_arithmetic T 227) := o_E3 h
  rw [cT_0  o.1, show mT T 227 = mA T 227 from rfl, mA_0  o.2.1]
  exact R_12 o.2.2 rfl (Or.inl rfl)
theorem dd_228 {S T : Sc} (h : RR S T) : RR (cT S 228) (mT T 228) := by
  rw [cT_none rfl rfl rfl rfl rfl rfl rfl rfl rfl rfl rfl rfl, show mT T 228 = mC T 228 from rfl, mC_none rfl rfl rfl rfl rfl rfl]
  exact R_12 h rfl (Or.inr rfl)
theorem dd_229 {S T : Sc} (h : RR S T) : RR (cT S 229) (mT T 229) := by
  have o : KO (f_Prc_useAccumulator S 229) (f_Mdl_arithmetic T 229) := o_E5 h
  rw [cT_0  o.1, show mT T 229 = mA T 229 from rfl, mA_0  o.2.1]
  exact R_12 o.2.2 rfl (Or.inl rfl)
theorem dd_230 {S T : Sc} (h : RR S T) : RR (cT S 230) (mT T 230) := by
  have o : KO (f_Prc_changeMemory S 230) (f_Mdl_change T 230) := o_E6 h
  rw [cT_3 rfl rfl rfl o.1, show mT T 230 = mC T 230 from rfl, mC_0  o.2.1]
  exact R_12 o.2.2 rfl (Or.inl rfl)
theorem dd_231 {S T : Sc} (h : RR S T) : RR (cT S 231) (mT T 231) := by
  have o : KO (f_Prc_useAccumulator S 231) (f_Mdl_arithmetic T 231) := o_E7 h
  rw [cT_0  o.1, show mT T 231 = mA T 231 from rfl, mA_0  o.2.1]
  exact R_12 o.2.2 rfl (Or.inl rfl)
theorem dd_232 {S T : Sc} (h : RR S T) : RR (cT S 232) (mT T 232) := by
  have o : KO (f_Prc_changeRegister S 232) (f_Mdl_index T 232) := o_E8 h
  rw [cT_4 rfl rfl rfl rfl o.1, show mT T 232 = mC T 232 from rfl, mC_1 rfl o.2.1]
  exact R_12 o.2.2 rfl (Or.inl rfl)
theorem dd_233 {S T : Sc} (h : RR S T) : RR (cT S 233) (mT T 233) := by
  have o : KO (f_Prc_useAccumulator S 233) (f_Mdl_arithmetic T 233) := o_E9 h
  rw [cT_0  o.1, show mT T 233 = mA T 233 from rfl, mA_0  o.2.1]
  exact R_12 o.2.2 rfl (Or.inl rfl)
theorem dd_234 {S T : Sc} (h : RR S T) : RR (cT S 234) (mT T 234) := by
  have o : KO (f_Prc_changeFlags S 234) (f_Mdl_other T 234) := o_EA h
  rw [cT_10 rfl rfl rfl rfl rfl rfl rfl rfl rfl rfl o.1, show mT T 234 = mC T 234 from rfl, mC_5 rfl rfl rfl rfl rfl o.2.1]
  exact R_12 o.2.2 rfl (Or.inl rfl)
theorem dd_235 {S T : Sc} (h : RR S T) : RR (cT S 235) (mT T 235) := by
  have o : KO (f_Prc_transfer S 235) (f_Mdl_transfer T 235) := o_EB h
  rw [cT_5 rfl rfl rfl rfl rfl o.1, show mT T 235 = mC T 235 from rfl, mC_2 rfl rfl o.2.1]
  exact R_12 o.2.2 rfl (Or.inl rfl)
theorem dd_236 {S T : Sc} (h : RR S T) : RR (cT S 236) (mT T 236) := by
  rw [cT_none rfl rfl rfl rfl rfl rfl rfl rfl rfl rfl rfl rfl, show mT T 236 = mC T 236 from rfl, mC_none rfl rfl rfl rfl rfl rfl]
  exact R_12 h rfl (Or.inr rfl)
theorem dd_237 {S T : Sc} (h : RR S T) : RR (cT S 237) (mT T 237) := by
  have o : KO (f_Prc_useAccumulator S 237) (f_Mdl_arithmetic T 237) := o_ED h
  rw [cT_0  o.1, show mT T 237 = mA T 237 from rfl, mA_0  o.2.1]
  exact R_12 o.2.2 rfl (Or.inl rfl)
theorem dd_238 {S T : Sc} (h : RR S T) : RR (cT S 238) (mT T 238) := by
  have o : KO (f_Prc_changeMemory S 238) (f_Mdl_change T 238) := o_EE h
  rw [cT_3 rfl rfl rfl o.1, show mT T 238 = mC T 238 from rfl, mC_0  o.2.1]
  exact R_12 o.2.2 rfl (Or.inl rfl)
theorem dd_239 {S T : Sc} (h : RR S T) : RR (cT S 239) (mT T 239) := by
  have o : KO (f_Prc_useAccumulator S 239) (f_Mdl_arithmetic T 239) := o_EF h
  rw [cT_0  o.1, show mT T 239 = mA T 239 from rfl, mA_0  o.2.1]
  exact R_12 o.2.2 rfl (Or.inl rfl)
theorem dd_240 {S T : Sc} (h : RR S T) : RR (cT S 240) (mT T 240) := by
  have o : KO (f_Prc_branch S 240) (f_Mdl_jump T 240) := o_F0 h
  rw [cT_8 rfl rfl rfl rfl rfl rfl rfl rfl o.1, show mT T 240 = mC T 240 from rfl, mC_4 rfl rfl rfl rfl o.2.1]
  exact R_12 o.2.2 rfl (Or.inl rfl)
theorem dd_241 {S T : Sc} (h : RR S T) : RR (cT S 241) (mT T 241) := by
  have o : KO (f_Prc_useAccumulator S 241) (f_Mdl_arithmetic T 241) := o_F1 h
  rw [cT_0  o.1, show mT T 241 = mA T 241 from rfl, mA_0  o.2.1]
  exact R_12 o.2.2 rfl (Or.inl rfl)
theorem dd_242 {S T : Sc} (h : RR S T) : RR (cT S 242) (mT T 242) := by
  have o : KO (f_Prc_useAccumulator S 242) (f_Mdl_arithmetic T 242) := o_F2 h
  rw [cT_0  o.1, show mT T 242 = mA T 242 from rfl, mA_0  o.2.1]
  exact R_12 o.2.2 rfl (Or.inl rfl)
theorem dd_243 {S T : Sc} (h : RR S T) : RR (cT S 243) (mT T 243) := by
  have o : KO (f_Prc_useAccumulator S 243) (f_Mdl_arithmetic T 243) := o_F3 h
  rw [cT_0  o.1, show mT T 243 = mA T 243 from rfl, mA_0  o.2.1]
  exact R_12 o.2.2 rfl (Or.inl rfl)
theorem dd_244 {S T : Sc} (h : RR S T) : RR (cT S 244) (mT T 244) := by
  have o : KO (f_Prc_push S 244) (f_Mdl_stack T 244) := o_F4 h
  rw [cT_6 rfl rfl rfl rfl rfl rfl o.1, show mT T 244 = mC T 244 from rfl, mC_3 rfl rfl rfl o.2.1]
  exact R_12 o.2.2 rfl (Or.inl rfl)
theorem dd_245 {S T : Sc} (h : RR S T) : RR (cT S 245) (mT T 245) := by
  have o : KO (f_Prc_useAccumulator S 245) (f_Mdl_arithmetic T 245) := o_F5 h
  rw [cT_0  o.1, show mT T 245 = mA T 245 from rfl, mA_0  o.2.1]
  exact R_12 o.2.2 rfl (Or.inl rfl)
theorem dd_246 {S T : Sc} (h : RR S T) : RR (cT S 246) (mT T 246) := by
  rw [cT_none rfl rfl rfl rfl rfl rfl rfl rfl rfl rfl rfl rfl, show mT T 246 = mC T 246 from rfl, mC_none rfl rfl rfl rfl rfl rfl]
  exact R_12 h rfl (Or.inr rfl)
theorem dd_247 {S T : Sc} (h : RR S T) : RR (cT S 247) (mT T 247) := by
  have o : KO (f_Prc_useAccumulator S 247) (f_Mdl_arithmetic T 247) := o_F7 h
  rw [cT_0  o.1, show mT T 247 = mA T 247 from rfl, mA_0  o.2.1]
  exact R_12 o.2.2 rfl (Or.inl rfl)
theorem dd_248 {S T : Sc} (h : RR S T) : RR (cT S 248) (mT T 248) := by
  have o : KO (f_Prc_changeFlags S 248) (f_Mdl_other T 248) := o_F8 h
  rw [cT_10 rfl rfl rfl rfl rfl rfl rfl rfl rfl rfl o.1, show mT T 248 = mC T 248 from rfl, mC_5 rfl rfl rfl rfl rfl o.2.1]
  exact R_12 o.2.2 rfl (Or.inl rfl)
theorem dd_249 {S T : Sc} (h : RR S T) : RR (cT S 249) (mT T 249) := by
  have o : KO (f_Prc_useAccumulator S 249) (f_Mdl_arithmetic T 249) := o_F9 h
  rw [cT_0  o.1, show mT T 249 = mA T 249 from rfl, mA_0  o.2.1]
  exact R_12 o.2.2 rfl (Or.inl rfl)
theorem dd_250 {S T : Sc} (h : RR S T) : RR (cT S 250) (mT T 250) := by
  have o : KO (f_Prc_pull S 250) (f_Mdl_stack T 250) := o_FA h
  rw [cT_7 rfl rfl rfl rfl rfl rfl rfl o.1, show mT T 250 = mC T 250 from rfl, mC_3 rfl rfl rfl o.2.1]
  exact R_12 o.2.2 rfl (Or.inl rfl)
theorem dd_251 {S T : Sc} (h : RR S T) : RR (cT S 251) (mT T 251) := by
  rw [cT_none rfl rfl rfl rfl rfl rfl rfl rfl rfl rfl rfl rfl, show mT T 251 = mC T 251 from rfl, mC_none rfl rfl rfl rfl rfl rfl]
  exact R_12 h rfl (Or.inr rfl)
theorem dd_252 {S T : Sc} (h : RR S T) : RR (cT S 252) (mT T 252) := by
  rw [cT_none rfl rfl rfl rfl rfl rfl rfl rfl rfl rfl rfl rfl, show mT T 252 = mC T 252 from rfl, mC_none rfl rfl rfl rfl rfl rfl]
  exact R_12 h rfl (Or.inr rfl)
theorem dd_253 {S T : Sc} (h : RR S T) : RR (cT S 253) (mT T 253) := by
  have o : KO (f_Prc_useAccumulator S 253) (f_Mdl_arithmetic T 253) := o_FD h
  rw [cT_0  o.1, show mT T 253 = mA T 253 from rfl, mA_0  o.2.1]
  exact R_12 o.2.2 rfl (Or.inl rfl)
theorem dd_254 {S T : Sc} (h : RR S T) : RR (cT S 254) (mT T 254) := by
  rw [cT_none rfl rfl rfl rfl rfl rfl rfl rfl rfl rfl rfl rfl, show mT T 254 = mC T 254 from rfl, mC_none rfl rfl rfl rfl rfl rfl]
  exact R_12 h rfl (Or.inr rfl)
theorem dd_255 {S T : Sc} (h : RR S T) : RR (cT S 255) (mT T 255) := by
  have o : KO (f_Prc_useAccumulator S 255) (f_Mdl_arithmetic T 255) := o_FF h
  rw [cT_0  o.1, show mT T 255 = mA T 255 from rfl, mA_0  o.2.1]
  exact R_12 o.2.2 rfl (Or.inl rfl)
end
section
theorem all_0 {S T : Sc} (_ : RR S T) : ∀ k, k < 1 → 0 < k → RR (cT S (nI k)) (mT T (nI k)) := fun k h z => absurd h (by omega)
theorem all_1 {S T : Sc} (h : RR S T) : ∀ k, k < 16 → 0 < k → RR (cT S (nI k)) (mT T (nI k)) := lt_s (lt_s (lt_s (lt_s (lt_s (lt_s (lt_s (lt_s (lt_s (lt_s (lt_s (lt_s (lt_s (lt_s (lt_s (all_0 h) (fun _ => dd_1 h)) (fun _ => dd_2 h)) (fun _ => dd_3 h)) (fun _ => dd_4 h)) (fun _ => dd_5 h)) (fun _ => dd_6 h)) (fun _ => dd_7 h)) (fun _ => dd_8 h)) (fun _ => dd_9 h)) (fun _ => dd_10 h)) (fun _ => dd_11 h)) (fun _ => dd_12 h)) (fun _ => dd_13 h)) (fun _ => dd_14 h)) (fun _ => dd_15 h)
theorem all_2 {S T : Sc} (h : RR S T) : ∀ k, k < 32 → 0 < k → RR (cT S (nI k)) (mT T (nI k)) := lt_s (lt_s (lt_s (lt_s (lt_s (lt_s (lt_s (lt_s (lt_s (lt_s (lt_s (lt_s (lt_s (lt_s (lt_s (lt_s (all_1 h) (fun _ => dd_16 h)) (fun _ => dd_17 h)) (fun _ => dd_18 h)) (fun _ => dd_19 h)) (fun _ => dd_20 h)) (fun _ => dd_21 h)) (fun _ => dd_22 h)) (fun _ => dd_23 h)) (fun _ => dd_24 h)) (fun _ => dd_25 h)) (fun _ => dd_26 h)) (fun _ => dd_27 h)) (fun _ => dd_28 h)) (fun _ => dd_29 h)) (fun _ => dd_30 h)) (fun _ => dd_31 h)
theorem all_3 {S T : Sc} (h : RR S T) : ∀ k, k < 48 → 0 < k → RR (cT S (nI k)) (mT T (nI k)) := lt_s (lt_s (lt_s (lt_s (lt_s (lt_s (lt_s (lt_s (lt_s (lt_s (lt_s (lt_s (lt_s (lt_s (lt_s (lt_s (all_2 h) (fun _ => dd_32 h)) (fun _ => dd_33 h)) (fun _ => dd_34 h)) (fun _ => dd_35 h)) (fun _ => dd_36 h)) (fun _ => dd_37 h)) (fun _ => dd_38 h)) (fun _ => dd_39 h)) (fun _ => dd_40 h)) (fun _ => dd_41 h)) (fun _ => dd_42 h)) (fun _ => dd_43 h)) (fun _ => dd_44 h)) (fun _ => dd_45 h)) (fun _ => dd_46 h)) (fun _ => dd_47 h)
theorem all_4 {S T : Sc} (h : RR S T) : ∀ k, k < 64 → 0 < k → RR (cT S (nI k)) (mT T (nI k)) := lt_s (lt_s (lt_s (lt_s (lt_s (lt_s (lt_s (lt_s (lt_s (lt_s (lt_s (lt_s (lt_s (lt_s (lt_s (lt_s (all_3 h) (fun _ => dd_48 h)) (fun _ => dd_49 h)) (fun _ => dd_50 h)) (fun _ => dd_51 h)) (fun _ => dd_52 h)) (fun _ => dd_53 h)) (fun _ => dd_54 h)) (fun _ => dd_55 h)) (fun _ => dd_56 h)) (fun _ => dd_57 h)) (fun _ => dd_58 h)) (fun _ => dd_59 h)) (fun _ => dd_60 h)) (fun _ => dd_61 h)) (fun _ => dd_62 h)) (fun _ => dd_63 h)
theorem all_5 {S T : Sc} (h : RR S T) : ∀ k, k < 80 → 0 < k → RR (cT S (nI k)) (mT T (nI k)) := lt_s (lt_s (lt_s (lt_s (lt_s (lt_s (lt_s (lt_s (lt_s (lt_s (lt_s (lt_s (lt_s (lt_s (lt_s (lt_s (all_4 h) (fun _ => dd_64 h)) (fun _ => dd_65 h)) (fun _ => dd_66 h)) (fun _ => dd_67 h)) (fun _ => dd_68 h)) (fun _ => dd_69 h)) (fun _ => dd_70 h)) (fun _ => dd_71 h)) (fun _ => dd_72 h)) (fun _ => dd_73 h)) (fun _ => dd_74 h)) (fun _ => dd_75 h)) (fun _ => dd_76 h)) (fun _ => dd_77 h)) (fun _ => dd_78 h)) (fun _ => dd_79 h)
theorem all_6 {S T : Sc} (h : RR S T) : ∀ k, k < 96 → 0 < k → RR (cT S (nI k)) (mT T (nI k)) := lt_s (lt_s (lt_s (lt_s (lt_s (lt_s (lt_s (lt_s (lt_s (lt_s (lt_s (lt_s (lt_s (lt_s (lt_s (lt_s (all_5 h) (fun _ => dd_80 h)) (fun _ => dd_81 h)) (fun _ => dd_82 h)) (fun _ => dd_83 h)) (fun _ => dd_84 h)) (fun _ => dd_85 h)) (fun _ => dd_86 h)) (fun _ => dd_87 h)) (fun _ => dd_88 h)) (fun _ => dd_89 h)) (fun _ => dd_90 h)) (fun _ => dd_91 h)) (fun _ => dd_92 h)) (fun _ => dd_93 h)) (fun _ => dd_94 h)) (fun _ => dd_95 h)
theorem all_7 {S T : Sc} (h : RR S T) : ∀ k, k < 112 → 0 < k → RR (cT S (nI k)) (mT T (nI k)) := lt_s (lt_s (lt_s (lt_s (lt_s (lt_s (lt_s (lt_s (lt_s (lt_s (lt_s (lt_s (lt_s (lt_s (lt_s (lt_s (all_6 h) (fun _ => dd_96 h)) (fun _ => dd_97 h)) (fun _ => dd_98 h)) (fun _ => dd_99 h)) (fun _ => dd_100 h)) (fun _ => dd_101 h)) (fun _ => dd_102 h)) (fun _ => dd_103 h)) (fun _ => dd_104 h)) (fun _ => dd_105 h)) (fun _ => dd_106 h)) (fun _ => dd_107 h)) (fun _ => dd_108 h)) (fun _ => dd_109 h)) (fun _ => dd_110 h)) (fun _ => dd_111 h)
theorem all_8 {S T : Sc} (h : RR S T) : ∀ k, k < 128 → 0 < k → RR (cT S (nI k)) (mT T (nI k)) := lt_s (lt_s (lt_s (lt_s (lt_s (lt_s (lt_s (lt_s (lt_s (lt_s (lt_s (lt_s (lt_s (lt_s (lt_s (lt_s (all_7 h) (fun _ => dd_112 h)) (fun _ => dd_113 h)) (fun _ => dd_114 h)) (fun _ => dd_115 h)) (fun _ => dd_116 h)) (fun _ => dd_117 h)) (fun _ => dd_118 h)) (fun _ => dd_119 h)) (fun _ => dd_120 h)) (fun _ => dd_121 h)) (fun _ => dd_122 h)) (fun _ => dd_123 h)) (fun _ => dd_124 h)) (fun _ => dd_125 h)) (fun _ => dd_126 h)) (fun _ => dd_127 h)
theorem all_9 {S T : Sc} (h : RR S T) : ∀ k, k < 144 → 0 < k → RR (cT S (nI k)) (mT T (nI k)) := lt_s (lt_s (lt_s (lt_s (lt_s (lt_s (lt_s (lt_s (lt_s (lt_s (lt_s (lt_s (lt_s (lt_s (lt_s (lt_s (all_8 h) (fun _ => dd_128 h)) (fun _ => dd_129 h)) (fun _ => dd_130 h)) (fun _ => dd_131 h)) (fun _ => dd_132 h)) (fun _ => dd_133 h)) (fun _ => dd_134 h)) (fun _ => dd_135 h)) (fun _ => dd_136 h)) (fun _ => dd_137 h)) (fun _ => dd_138 h)) (fun _ => dd_139 h)) (fun _ => dd_140 h)) (fun _ => dd_141 h)) (fun _ => dd_142 h)) (fun _ => dd_143 h)
theorem all_10 {S T : Sc} (h : RR S T) : ∀ k, k < 160 → 0 < k → RR (cT S (nI k)) (mT T (nI k)) := lt_s (lt_s (lt_s (lt_s (lt_s (lt_s (lt_s (lt_s (lt_s (lt_s (lt_s (lt_s (lt_s (lt_s (lt_s (lt_s (all_9 h) (fun _ => dd_144 h)) (fun _ => dd_145 h)) (fun _ => dd_146 h)) (fun _ => dd_147 h)) (fun _ => dd_148 h)) (fun _ => dd_149 h)) (fun _ => dd_150 h)) (fun _ => dd_151 h)) (fun _ => dd_152 h)) (fun _ => dd_153 h)) (fun _ => dd_154 h)) (fun _ => dd_155 h)) (fun _ => dd_156 h)) (fun _ => dd_157 h)) (fun _ => dd_158 h)) (fun _ => dd_159 h)
theorem all_11 {S T : Sc} (h : RR S T) : ∀ k, k < 176 → 0 < k → RR (cT S (nI k)) (mT T (nI k)) := lt_s (lt_s (lt_s (lt_s (lt_s (lt_s (lt_s (lt_s (lt_s (lt_s (lt_s (lt_s (lt_s (lt_s (lt_s (lt_s (all_10 h) (fun _ => dd_160 h)) (fun _ => dd_161 h)) (fun _ => dd_162 h)) (fun _ => dd_163 h)) (fun _ => dd_164 h)) (fun _ => dd_165 h)) (fun _ => dd_166 h)) (fun _ => dd_167 h)) (fun _ => dd_168 h)) (fun _ => dd_169 h)) (fun _ => dd_170 h)) (fun _ => dd_171 h)) (fun _ => dd_172 h)) (fun _ => dd_173 h)) (fun _ => dd_174 h)) (fun _ => dd_175 h)
theorem all_12 {S T : Sc} (h : RR S T) : ∀ k, k < 192 → 0 < k → RR (cT S (nI k)) (mT T (nI k)) := lt_s (lt_s (lt_s (lt_s (lt_s (lt_s (lt_s (lt_s (lt_s (lt_s (lt_s (lt_s (lt_s (lt_s (lt_s (lt_s (all_11 h) (fun _ => dd_176 h)) (fun _ => dd_177 h)) (fun _ => dd_178 h)) (fun _ => dd_179 h)) (fun _ => dd_180 h)) (fun _ => dd_181 h)) (fun _ => dd_182 h)) (fun _ => dd_183 h)) (fun _ => dd_184 h)) (fun _ => dd_185 h)) (fun _ => dd_186 h)) (fun _ => dd_187 h)) (fun _ => dd_188 h)) (fun _ => dd_189 h)) (fun _ => dd_190 h)) (fun _ => dd_191 h)
theorem all_13 {S T : Sc} (h : RR S T) : ∀ k, k < 208 → 0 < k → RR (cT S (nI k)) (mT T (nI k)) := lt_s (lt_s (lt_s (lt_s (lt_s (lt_s (lt_s (lt_s (lt_s (lt_s (lt_s (lt_s (lt_s (lt_s (lt_s (lt_s (all_12 h) (fun _ => dd_192 h)) (fun _ => dd_193 h)) (fun _ => dd_194 h)) (fun _ => dd_195 h)) (fun _ => dd_196 h)) (fun _ => dd_197 h)) (fun _ => dd_198 h)) (fun _ => dd_199 h)) (fun _ => dd_200 h)) (fun _ => dd_201 h)) (fun _ => dd_202 h)) (fun _ => dd_203 h)) (fun _ => dd_204 h)) (fun _ => dd_205 h)) (fun _ => dd_206 h)) (fun _ => dd_207 h)
theorem all_14 {S T : Sc} (h : RR S T) : ∀ k, k < 224 → 0 < k → RR (cT S (nI k)) (mT T (nI k)) := lt_s (lt_s (lt_s (lt_s (lt_s (lt_s (lt_s (lt_s (lt_s (lt_s (lt_s (lt_s (lt_s (lt_s (lt_s (lt_s (all_13 h) (fun _ => dd_208 h)) (fun _ => dd_209 h)) (fun _ => dd_210 h)) (fun _ => dd_211 h)) (fun _ => dd_212 h)) (fun _ => dd_213 h)) (fun _ => dd_214 h)) (fun _ => dd_215 h)) (fun _ => dd_216 h)) (fun _ => dd_217 h)) (fun _ => dd_218 h)) (fun _ => dd_219 h)) (fun _ => dd_220 h)) (fun _ => dd_221 h)) (fun _ => dd_222 h)) (fun _ => dd_223 h)
theorem all_15 {S T : Sc} (h : RR S T) : ∀ k, k < 240 → 0 < k → RR (cT S (nI k)) (mT T (nI k)) := lt_s (lt_s (lt_s (lt_s (lt_s (lt_s (lt_s (lt_s (lt_s (lt_s (lt_s (lt_s (lt_s (lt_s (lt_s (lt_s (all_14 h) (fun _ => dd_224 h)) (fun _ => dd_225 h)) (fun _ => dd_226 h)) (fun _ => dd_227 h)) (fun _ => dd_228 h)) (fun _ => dd_229 h)) (fun _ => dd_230 h)) (fun _ => dd_231 h)) (fun _ => dd_232 h)) (fun _ => dd_233 h)) (fun _ => dd_234 h)) (fun _ => dd_235 h)) (fun _ => dd_236 h)) (fun _ => dd_237 h)) (fun _ => dd_238 h)) (fun _ => dd_239 h)
theorem all_16 {S T : Sc} (h : RR S T) : ∀ k, k < 256 → 0 < k → RR (cT S (nI k)) (mT T (nI k)) := lt_s (lt_s (lt_s (lt_s (lt_s (lt_s (lt_s (lt_s (lt_s (lt_s (lt_s (lt_s (lt_s (lt_s (lt_s (lt_s (all_15 h) (fun _ => dd_240 h)) (fun _ => dd_241 h)) (fun _ => dd_242 h)) (fun _ => dd_243 h)) (fun _ => dd_244 h)) (fun _ => dd_245 h)) (fun _ => dd_246 h)) (fun _ => dd_247 h)) (fun _ => dd_248 h)) (fun _ => dd_249 h)) (fun _ => dd_250 h)) (fun _ => dd_251 h)) (fun _ => dd_252 h)) (fun _ => dd_253 h)) (fun _ => dd_254 h)) (fun _ => dd_255 h)
def cX (S : Sc) : Sc := bn (f_Opd_nextByte S) (fun r S2 => if r = (0 : Int32) then (bn (f_Opd_nextByte S2) (fun r3 S3 => bs (f_Prc_enterInterrupt S3 (486 : Int32)) (fun S4 => S4))) else (cT S2 r))
def mX (T : Sc) : Sc := bn (f_Mdl_next T) (fun r T2 => mT T2 r)
theorem mk_eq (S : Sc) : f_Prc_makeStep S = if S.1 10 = (0 : Int32) then (if S.1 11 = (0 : Int32) then (cX (pr S 13 (S.1 13 + (1 : Int32)))) else (if f_Reg_has (pr S 13 (S.1 13 + (1 : Int32))) (4 : Int32) = (0 : Int32) then (bs (f_Prc_enterInterrupt (pr S 13 (S.1 13 + (1 : Int32))) (494 : Int32)) (fun S4 => S4)) else (cX (pr S 13 (S.1 13 + (1 : Int32)))))) else (bs (f_Prc_enterInterrupt (pr (pr S 13 (S.1 13 + (1 : Int32))) 10 (0 : Int32)) (490 : Int32)) (fun S4 => S4)) := rfl
theorem st_eq (T : Sc) : f_Mdl_step T = if T.1 10 = (0 : Int32) then (if T.1 11 = (0 : Int32) then (mX (pr T 12 (T.1 12 + (1 : Int32)))) else (if f_Mdl_is (pr T 12 (T.1 12 + (1 : Int32))) (4 : Int32) = (0 : Int32) then (bs (f_Mdl_interruptFrom (pr T 12 (T.1 12 + (1 : Int32))) (494 : Int32)) (fun S4 => S4)) else (mX (pr T 12 (T.1 12 + (1 : Int32)))))) else (bs (f_Mdl_interruptFrom (pr (pr T 12 (T.1 12 + (1 : Int32))) 10 (0 : Int32)) (490 : Int32)) (fun S4 => S4)) := rfl
theorem em_00 (T : Sc) : f_Mdl_jump T 0 = ((1 : Int32), f_Mdl_interruptFrom (f_Mdl_next T).2 (486 : Int32)) := rfl
theorem bnbs (x : Int32 × Sc) (F : Sc → Sc) : bn x (fun _ S3 => bs (F S3) (fun S4 => S4)) = F x.2 := rfl
theorem pb_12 (S : Sc) (b : Int32) : (f_Stk_pushByte S b).1 12 = S.1 12 := rfl
theorem pw_12 (S : Sc) (b : Int32) : (f_Stk_pushWord S b).1 12 = S.1 12 := rfl
theorem pf4_12 (S : Sc) : (f_Reg_putFlag S 4 1).1 12 = S.1 12 := rfl
theorem pf8_12 (S : Sc) : (f_Reg_putFlag S 8 0).1 12 = S.1 12 := rfl
theorem crw_12 (S : Sc) (c : Int32) : (f_Bus_readWord S c).2.1 12 = S.1 12 := rfl
theorem pr6_12 (S : Sc) (v : Int32) : (pr S 6 v).1 12 = S.1 12 := rfl
theorem pr7_12 (S : Sc) (v : Int32) : (pr S 7 v).1 12 = S.1 12 := rfl
theorem nb_12 (S : Sc) : (f_Opd_nextByte S).2.1 12 = S.1 12 := rfl
theorem ei_12 (S : Sc) (x : Int32) : (f_Prc_enterInterrupt S x).1 12 = S.1 12 := by
  rw [ei_eq, pr7_12, crw_12, pr6_12, pf8_12, pf4_12, pb_12, pw_12, pb_12]
theorem R_9z {S T : Sc} (h : RR S T) (z : S.1 12 = 0) : RR S (pr T 9 (0 : Int32)) := by
  obtain ⟨⟨e0, e1, e2, e3, e4, e5, e6, e7, e8, e9, e10, e11, e12, e13⟩, g, hm, hl⟩ := h
  exact ⟨⟨e0, e1, e2, e3, e4, e5, e6, e7, e8, e9, e10, e11, z, e13⟩, g, hm, hl⟩
theorem s_X {S T : Sc} (h : RR S T) (hz : S.1 12 = 0) : RR (cX S) (mX T) := by
  obtain ⟨a1, a2, a3⟩ := s_next h
  have ec : cX S = if (f_Opd_nextByte S).1 = (0 : Int32) then (bn (f_Opd_nextByte (f_Opd_nextByte S).2) (fun r3 S3 => bs (f_Prc_enterInterrupt S3 (486 : Int32)) (fun S4 => S4))) else (cT (f_Opd_nextByte S).2 (f_Opd_nextByte S).1) := rfl
  have em : mX T = mT (f_Mdl_next T).2 (f_Mdl_next T).1 := rfl
  rw [ec, em, ← a1]
  obtain ⟨k, hk, ek⟩ := r8_nI a2
  by_cases z : (f_Opd_nextByte S).1 = (0 : Int32)
  · rw [if_pos z, z, show mT (f_Mdl_next T).2 0 = mC (f_Mdl_next T).2 0 from rfl, mC_4 rfl rfl rfl rfl (by rw [em_00]), em_00, bnbs]
    obtain ⟨b1, b2, b3⟩ := s_next a3
    exact R_9z (s_int b3 (by decide)) (by rw [ei_12, nb_12, nb_12]; exact hz)
  · rw [if_neg z, ek]
    refine all_16 a3 k hk (Nat.pos_of_ne_zero fun q => z ?_)
    rw [ek, q]; rfl
theorem s_step {S T : Sc} (h : RR S T) (hz : S.1 12 = 0) : RR (f_Prc_makeStep S) (f_Mdl_step T) := by
  have h1 : RR (pr S 13 (S.1 13 + (1 : Int32))) (pr T 12 (T.1 12 + (1 : Int32))) := R_13 h (by rw [RRe_13 h])
  have e10 := RRe_10 h
  have e11 := RRe_11 h
  rw [mk_eq, st_eq, ← e10, ← e11]
  by_cases a : S.1 10 = (0 : Int32)
  · rw [if_pos a, if_pos a]
    by_cases b : S.1 11 = (0 : Int32)
    · rw [if_pos b, if_pos b]
      exact s_X h1 hz
    · rw [if_neg b, if_neg b, has_is h1 4]
      by_cases c : f_Mdl_is (pr T 12 (T.1 12 + (1 : Int32))) (4 : Int32) = (0 : Int32)
      · rw [if_pos c, if_pos c, bs_id, bs_id]
        exact s_int h1 (by decide)
      · rw [if_neg c, if_neg c]
        exact s_X h1 hz
  · rw [if_neg a, if_neg a, bs_id, bs_id]
    exact s_int (R_10 h1 rfl (Or.inl rfl)) (by decide)
end
section
theorem p_poke {S T : Sc} (h : RR S T) (x1 x2 x3 : Int32) : (f_Wc_poke S x1 x2 x3).1 = (f_Mdl_poke T x1 x2 x3).1 ∧ RR (f_Wc_poke S x1 x2 x3).2 (f_Mdl_poke T x1 x2 x3).2 := by
  unfold f_Wc_poke f_Mdl_poke
  by_cases c0 : x3 < (1 : Int32)
  · rw [if_pos c0, if_pos c0]; exact ⟨rfl, h⟩
  rw [if_neg c0, if_neg c0]
  by_cases c1 : (4 : Int32) < x3
  · rw [if_pos c1, if_pos c1]; exact ⟨rfl, h⟩
  rw [if_neg c1, if_neg c1]
  by_cases c2 : x1 < (0 : Int32)
  · rw [if_pos c2, if_pos c2]; exact ⟨rfl, h⟩
  rw [if_neg c2, if_neg c2]
  by_cases c3 : x1 ≤ ((1024 : Int32) - x3)
  rotate_left
  · rw [if_neg c3, if_neg c3]; exact ⟨rfl, h⟩
  rw [if_pos c3, if_pos c3]
  by_cases d0 : x3 ≤ (0 : Int32)
  · rw [if_pos d0, if_pos d0]; exact ⟨rfl, h⟩
  rw [if_neg d0, if_neg d0]
  by_cases d1 : x3 ≤ (1 : Int32)
  · rw [if_pos d1, if_pos d1]; exact ⟨rfl, RR_pm h _ (nar_255 _)⟩
  rw [if_neg d1, if_neg d1]
  by_cases d2 : x3 ≤ (2 : Int32)
  · rw [if_pos d2, if_pos d2]; exact ⟨rfl, RR_pm (RR_pm h _ (nar_255 _)) _ (nar_255 _)⟩
  rw [if_neg d2, if_neg d2]
  by_cases d3 : x3 ≤ (3 : Int32)
  · rw [if_pos d3, if_pos d3]; exact ⟨rfl, RR_pm (RR_pm (RR_pm h _ (nar_255 _)) _ (nar_255 _)) _ (nar_255 _)⟩
  rw [if_neg d3, if_neg d3]
  exact ⟨rfl, RR_pm (RR_pm (RR_pm (RR_pm h _ (nar_255 _)) _ (nar_255 _)) _ (nar_255 _)) _ (nar_255 _)⟩
theorem p_peek {S T : Sc} (h : RR S T) (x : Int32) : f_Wc_peek S x = f_Mdl_peek T x := by
  unfold f_Wc_peek f_Mdl_peek
  by_cases a : x < (0 : Int32)
  · rw [if_pos a, if_pos a]
  · rw [if_neg a, if_neg a]
    by_cases b : x < (1024 : Int32)
    · rw [if_pos b, if_neg (Int32.not_le.mpr b)]
      exact h.2.2.1 _ (lt_vp (in_peek2 a b))
    · rw [if_neg b, if_pos (Int32.not_lt.mp b)]
theorem u8_of {x : Int32} (h1 : ¬ x < (0 : Int32)) (h2 : ¬ (255 : Int32) < x) : r8 x := by
  obtain ⟨i, hi, rfl⟩ := nI_of h1
  rw [show (255 : Int32) = nI 255 from rfl, nI_ltI (by omega) hi] at h2
  show nI i &&& nI (2 ^ 8 - 1) = nI i
  rw [nx_pm, Nat.mod_eq_of_lt (by omega)]
theorem u16_of {x : Int32} (h1 : ¬ x < (0 : Int32)) (h2 : x ≤ (65535 : Int32)) : r16 x := by
  obtain ⟨i, hi, rfl⟩ := nI_of h1
  rw [show (65535 : Int32) = nI 65535 from rfl, nI_leI hi (by omega)] at h2
  show nI i &&& nI (2 ^ 16 - 1) = nI i
  rw [nx_pm, Nat.mod_eq_of_lt (by omega)]
theorem p_start {S T : Sc} (h : RR S T) (x1 x2 : Int32) : (f_Wc_start S x1 x2).1 = (f_Mdl_start T x1 x2).1 ∧ RR (f_Wc_start S x1 x2).2 (f_Mdl_start T x1 x2).2 := by
  unfold f_Wc_start f_Mdl_start
  by_cases a : x1 < (0 : Int32)
  · rw [if_pos a, if_pos a]; exact ⟨rfl, h⟩
  rw [if_neg a, if_neg a]
  by_cases b : (255 : Int32) < x1
  · rw [if_pos b, if_pos b]; exact ⟨rfl, h⟩
  rw [if_neg b, if_neg b]
  by_cases c : x2 < (0 : Int32)
  · rw [if_pos c, if_pos c]; exact ⟨rfl, h⟩
  rw [if_neg c, if_neg c]
  by_cases d : x2 ≤ (65535 : Int32)
  · rw [if_pos d, if_pos d]
    exact ⟨rfl, R_12 (R_7 (R_6 h rfl (u8_of a b)) rfl (u16_of c d)) rfl (Or.inl rfl)⟩
  · rw [if_neg d, if_neg d]; exact ⟨rfl, h⟩
theorem p_cut {S T : Sc} (h : RR S T) (x : Int32) : x &&& f_Reg_indexMask S = f_Mdl_cut x (f_Mdl_is T 16) := by
  show x &&& f_Reg_maskOf (f_Reg_wideIndex S) = _
  rcases WN_I h with ⟨p1, p2⟩ | ⟨p1, p2⟩
  · rw [p1, p2]; rfl
  · rw [p1, p2]; rfl
theorem p_set {S T : Sc} (h : RR S T) (x1 x2 : Int32) : (f_Wc_set S x1 x2).1 = (f_Mdl_set T x1 x2).1 ∧ RR (f_Wc_set S x1 x2).2 (f_Mdl_set T x1 x2).2 := by
  unfold f_Wc_set f_Mdl_set
  by_cases c0 : x1 = (0 : Int32)
  · rw [if_pos c0, if_pos c0]; exact ⟨rfl, R_0 h rfl (m16 _)⟩
  rw [if_neg c0, if_neg c0]
  by_cases c1 : x1 = (1 : Int32)
  · rw [if_pos c1, if_pos c1]; exact ⟨rfl, R_1 h (p_cut h _) (mask_r16 _)⟩
  rw [if_neg c1, if_neg c1]
  by_cases c2 : x1 = (2 : Int32)
  · rw [if_pos c2, if_pos c2]; exact ⟨rfl, R_2 h (p_cut h _) (mask_r16 _)⟩
  rw [if_neg c2, if_neg c2]
  by_cases c3 : x1 = (3 : Int32)
  · rw [if_pos c3, if_pos c3]; exact ⟨rfl, R_3 h rfl (m16 _)⟩
  rw [if_neg c3, if_neg c3]
  by_cases c4 : x1 = (4 : Int32)
  · rw [if_pos c4, if_pos c4]; exact ⟨rfl, R_4 h rfl (m16 _)⟩
  rw [if_neg c4, if_neg c4]
  by_cases c5 : x1 = (5 : Int32)
  · rw [if_pos c5, if_pos c5]; exact ⟨rfl, R_5 h rfl (m8 _)⟩
  rw [if_neg c5, if_neg c5]
  by_cases c6 : x1 = (6 : Int32)
  · rw [if_pos c6, if_pos c6]; exact ⟨rfl, s_setP h rfl⟩
  rw [if_neg c6, if_neg c6]
  exact ⟨rfl, h⟩
theorem p_register {S T : Sc} (h : RR S T) (x : Int32) : f_Wc_register S x = f_Mdl_register T x := by
  unfold f_Wc_register f_Mdl_register
  rw [RRe_0 h, RRe_1 h, RRe_2 h, RRe_3 h, RRe_4 h, RRe_5 h, RRe_6 h, RRe_7 h, RRe_8 h]
theorem p_interrupt {S T : Sc} (h : RR S T) : (f_Wc_interrupt S).1 = (f_Mdl_interrupt T).1 ∧ RR (f_Wc_interrupt S).2 (f_Mdl_interrupt T).2 := by
  unfold f_Wc_interrupt f_Mdl_interrupt
  have e := RRe_10 h
  rw [← e]
  by_cases c : S.1 10 = (0 : Int32)
  · rw [if_pos c, if_pos c]; exact ⟨rfl, R_10 h rfl (Or.inr rfl)⟩
  · rw [if_neg c, if_neg c]
    refine ⟨rfl, ?_⟩
    have z : S.1 10 = (1 : Int32) := (RRr_10 h).resolve_left c
    obtain ⟨⟨e0, e1, e2, e3, e4, e5, e6, e7, e8, e9, e10, e11, e12, e13⟩, g, hm, hl⟩ := h
    exact ⟨⟨e0, e1, e2, e3, e4, e5, e6, e7, e8, e9, z, e11, e12, e13⟩, g, hm, hl⟩
theorem p_line {S T : Sc} (h : RR S T) (x : Int32) (hx : zb x) : RR (f_Wc_line S x) (f_Mdl_line T x) := R_11 h rfl hx
theorem p_touched {S T : Sc} (h : RR S T) (x : Int32) : f_Wc_touched S x = f_Mdl_touched T x := by
  unfold f_Wc_touched f_Mdl_touched
  have e9 := RRe_9 h
  by_cases a : x < (0 : Int32)
  · rw [if_pos a, if_pos a]
  rw [if_neg a, if_neg a]
  by_cases b : (8 : Int32) ≤ x
  · rw [if_pos b, if_pos b]
  rw [if_neg b, if_neg b, ← e9]
  by_cases c : x < S.1 9
  · rw [if_pos c, if_neg (Int32.not_le.mpr c)]
    obtain ⟨k, hk, rfl⟩ := nI_of a
    rw [show (8 : Int32) = nI 8 from rfl, nI_leI (by omega) hk] at b
    show S.2.2 (((S.1 9 - 1) - nI k) &&& 7).toNatClampNeg = T.2.2 (nI k).toNatClampNeg
    have e1 : (1 : Int32).toBitVec.toNat = 1 := rfl
    have e2 : (nI k).toBitVec.toNat = k := by
      show (BitVec.ofNat 32 k).toNat = k
      rw [BitVec.toNat_ofNat]
      omega
    have hn := (S.1 9).toBitVec.isLt
    have e3 : ((S.1 9 - 1) - nI k).toBitVec.toNat % 8 = ((S.1 9).toBitVec.toNat + 4294967295 - k) % 8 := by
      rw [Int32.toBitVec_sub, Int32.toBitVec_sub, BitVec.toNat_sub, BitVec.toNat_sub, e1, e2]
      generalize (S.1 9).toBitVec.toNat = n at hn ⊢
      show (4294967296 - k + (4294967296 - 1 + n) % 4294967296) % 4294967296 % 8 = _
      have hn : n < 4294967296 := hn
      omega
    rw [and7_n, nI_clamp hk, ← h.2.2.2 k (by omega), e3]
  · rw [if_neg c, if_pos (Int32.not_lt.mp c)]
def cR (n : Int32) : Nat → Int32 → Sc → Int32 × Sc
  | 0, k, S => (k, S)
  | f + 1, k, S => if n ≤ k then (k, S) else (if S.1 12 = (0 : Int32) then cR n f (k + 1) (f_Prc_makeStep S) else (k, S))
def mR (n : Int32) : Nat → Int32 → Sc → Int32 × Sc
  | 0, k, S => (k, S)
  | f + 1, k, S => if n ≤ k then (k, S) else (if S.1 9 = (0 : Int32) then mR n f (k + 1) (f_Mdl_step S) else (k, S))
theorem p_R (n : Int32) : ∀ (f : Nat) (k : Int32) {S T : Sc}, RR S T → (cR n f k S).1 = (mR n f k T).1 ∧ RR (cR n f k S).2 (mR n f k T).2
  | 0, _, _, _, h => ⟨rfl, h⟩
  | f + 1, k, S, T, h => by
    show (if n ≤ k then (k, S) else (if S.1 12 = (0 : Int32) then cR n f (k + 1) (f_Prc_makeStep S) else (k, S))).1 = (if n ≤ k then (k, T) else (if T.1 9 = (0 : Int32) then mR n f (k + 1) (f_Mdl_step T) else (k, T))).1 ∧ RR (if n ≤ k then (k, S) else (if S.1 12 = (0 : Int32) then cR n f (k + 1) (f_Prc_makeStep S) else (k, S))).2 (if n ≤ k then (k, T) else (if T.1 9 = (0 : Int32) then mR n f (k + 1) (f_Mdl_step T) else (k, T))).2
    rw [← RRe_12 h]
    by_cases a : n ≤ k
    · rw [if_pos a, if_pos a]; exact ⟨rfl, h⟩
    · rw [if_neg a, if_neg a]
      by_cases b : S.1 12 = (0 : Int32)
      · rw [if_pos b, if_pos b]; exact p_R n f (k + 1) (s_step h b)
      · rw [if_neg b, if_neg b]; exact ⟨rfl, h⟩
def f_Wc_run (S : Sc) (n : Int32) : Int32 × Sc := if n < (0 : Int32) then ((-1 : Int32), S) else (if n ≤ (60 : Int32) then cR n 61 0 S else ((-1 : Int32), S))
def f_Mdl_run (S : Sc) (n : Int32) : Int32 × Sc := if n < (0 : Int32) then ((-1 : Int32), S) else (if n ≤ (60 : Int32) then mR n 61 0 S else ((-1 : Int32), S))
theorem p_run {S T : Sc} (h : RR S T) (n : Int32) : (f_Wc_run S n).1 = (f_Mdl_run T n).1 ∧ RR (f_Wc_run S n).2 (f_Mdl_run T n).2 := by
  unfold f_Wc_run f_Mdl_run
  by_cases a : n < (0 : Int32)
  · rw [if_pos a, if_pos a]; exact ⟨rfl, h⟩
  rw [if_neg a, if_neg a]
  by_cases b : n ≤ (60 : Int32)
  · rw [if_pos b, if_pos b]; exact p_R n 61 0 h
  · rw [if_neg b, if_neg b]; exact ⟨rfl, h⟩
end
