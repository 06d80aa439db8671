theorem all_0 {S T : Sc} (_ : RR S T) : ∀ k, k < 1 → 0 < k → RR (cT S (nI k)) (mT T (nI k)) := fun k h z => absurd h (by omega)
theorem all_1 {S T : Sc} (h : RR S T) : ∀ k, k < 16 → 0 < k → RR (cT S (nI k)) (mT T (nI k)) := lt_s (lt_s (lt_s (lt_s (lt_s (lt_s (lt_s (lt_s (lt_s (lt_s (lt_s (lt_s (lt_s (lt_s (lt_s (all_0 h) (fun _ => dd_1 h)) (fun _ => dd_2 h)) (fun _ => dd_3 h)) (fun _ => dd_4 h)) (fun _ => dd_5 h)) (fun _ => dd_6 h)) (fun _ => dd_7 h)) (fun _ => dd_8 h)) (fun _ => dd_9 h)) (fun _ => dd_10 h)) (fun _ => dd_11 h)) (fun _ => dd_12 h)) (fun _ => dd_13 h)) (fun _ => dd_14 h)) (fun _ => dd_15 h)
theorem all_2 {S T : Sc} (h : RR S T) : ∀ k, k < 32 → 0 < k → RR (cT S (nI k)) (mT T (nI k)) := lt_s (lt_s (lt_s (lt_s (lt_s (lt_s (lt_s (lt_s (lt_s (lt_s (lt_s (lt_s (lt_s (lt_s (lt_s (lt_s (all_1 h) (fun _ => dd_16 h)) (fun _ => dd_17 h)) (fun _ => dd_18 h)) (fun _ => dd_19 h)) (fun _ => dd_20 h)) (fun _ => dd_21 h)) (fun _ => dd_22 h)) (fun _ => dd_23 h)) (fun _ => dd_24 h)) (fun _ => dd_25 h)) (fun _ => dd_26 h)) (fun _ => dd_27 h)) (fun _ => dd_28 h)) (fun _ => dd_29 h)) (fun _ => dd_30 h)) (fun _ => dd_31 h)
theorem all_3 {S T : Sc} (h : RR S T) : ∀ k, k < 48 → 0 < k → RR (cT S (nI k)) (mT T (nI k)) := lt_s (lt_s (lt_s (lt_s (lt_s (lt_s (lt_s (lt_s (lt_s (lt_s (lt_s (lt_s (lt_s (lt_s (lt_s (lt_s (all_2 h) (fun _ => dd_32 h)) (fun _ => dd_33 h)) (fun _ => dd_34 h)) (fun _ => dd_35 h)) (fun _ => dd_36 h)) (fun _ => dd_37 h)) (fun _ => dd_38 h)) (fun _ => dd_39 h)) (fun _ => dd_40 h)) (fun _ => dd_41 h)) (fun _ => dd_42 h)) (fun _ => dd_43 h)) (fun _ => dd_44 h)) (fun _ => dd_45 h)) (fun _ => dd_46 h)) (fun _ => dd_47 h)
theorem all_4 {S T : Sc} (h : RR S T) : ∀ k, k < 64 → 0 < k → RR (cT S (nI k)) (mT T (nI k)) := lt_s (lt_s (lt_s (lt_s (lt_s (lt_s (lt_s (lt_s (lt_s (lt_s (lt_s (lt_s (lt_s (lt_s (lt_s (lt_s (all_3 h) (fun _ => dd_48 h)) (fun _ => dd_49 h)) (fun _ => dd_50 h)) (fun _ => dd_51 h)) (fun _ => dd_52 h)) (fun _ => dd_53 h)) (fun _ => dd_54 h)) (fun _ => dd_55 h)) (fun _ => dd_56 h)) (fun _ => dd_57 h)) (fun _ => dd_58 h)) (fun _ => dd_59 h)) (fun _ => dd_60 h)) (fun _ => dd_61 h)) (fun _ => dd_62 h)) (fun _ => dd_63 h)
theorem all_5 {S T : Sc} (h : RR S T) : ∀ k, k < 80 → 0 < k → RR (cT S (nI k)) (mT T (nI k)) := lt_s (lt_s (lt_s (lt_s (lt_s (lt_s (lt_s (lt_s (lt_s (lt_s (lt_s (lt_s (lt_s (lt_s (lt_s (lt_s (all_4 h) (fun _ => dd_64 h)) (fun _ => dd_65 h)) (fun _ => dd_66 h)) (fun _ => dd_67 h)) (fun _ => dd_68 h)) (fun _ => dd_69 h)) (fun _ => dd_70 h)) (fun _ => dd_71 h)) (fun _ => dd_72 h)) (fun _ => dd_73 h)) (fun _ => dd_74 h)) (fun _ => dd_75 h)) (fun _ => dd_76 h)) (fun _ => dd_77 h)) (fun _ => dd_78 h)) (fun _ => dd_79 h)
theorem all_6 {S T : Sc} (h : RR S T) : ∀ k, k < 96 → 0 < k → RR (cT S (nI k)) (mT T (nI k)) := lt_s (lt_s (lt_s (lt_s (lt_s (lt_s (lt_s (lt_s (lt_s (lt_s (lt_s (lt_s (lt_s (lt_s (lt_s (lt_s (all_5 h) (fun _ => dd_80 h)) (fun _ => dd_81 h)) (fun _ => dd_82 h)) (fun _ => dd_83 h)) (fun _ => dd_84 h)) (fun _ => dd_85 h)) (fun _ => dd_86 h)) (fun _ => dd_87 h)) (fun _ => dd_88 h)) (fun _ => dd_89 h)) (fun _ => dd_90 h)) (fun _ => dd_91 h)) (fun _ => dd_92 h)) (fun _ => dd_93 h)) (fun _ => dd_94 h)) (fun _ => dd_95 h)
theorem all_7 {S T : Sc} (h : RR S T) : ∀ k, k < 112 → 0 < k → RR (cT S (nI k)) (mT T (nI k)) := lt_s (lt_s (lt_s (lt_s (lt_s (lt_s (lt_s (lt_s (lt_s (lt_s (lt_s (lt_s (lt_s (lt_s (lt_s (lt_s (all_6 h) (fun _ => dd_96 h)) (fun _ => dd_97 h)) (fun _ => dd_98 h)) (fun _ => dd_99 h)) (fun _ => dd_100 h)) (fun _ => dd_101 h)) (fun _ => dd_102 h)) (fun _ => dd_103 h)) (fun _ => dd_104 h)) (fun _ => dd_105 h)) (fun _ => dd_106 h)) (fun _ => dd_107 h)) (fun _ => dd_108 h)) (fun _ => dd_109 h)) (fun _ => dd_110 h)) (fun _ => dd_111 h)
theorem all_8 {S T : Sc} (h : RR S T) : ∀ k, k < 128 → 0 < k → RR (cT S (nI k)) (mT T (nI k)) := lt_s (lt_s (lt_s (lt_s (lt_s (lt_s (lt_s (lt_s (lt_s (lt_s (lt_s (lt_s (lt_s (lt_s (lt_s (lt_s (all_7 h) (fun _ => dd_112 h)) (fun _ => dd_113 h)) (fun _ => dd_114 h)) (fun _ => dd_115 h)) (fun _ => dd_116 h)) (fun _ => dd_117 h)) (fun _ => dd_118 h)) (fun _ => dd_119 h)) (fun _ => dd_120 h)) (fun _ => dd_121 h)) (fun _ => dd_122 h)) (fun _ => dd_123 h)) (fun _ => dd_124 h)) (fun _ => dd_125 h)) (fun _ => dd_126 h)) (fun _ => dd_127 h)
theorem all_9 {S T : Sc} (h : RR S T) : ∀ k, k < 144 → 0 < k → RR (cT S (nI k)) (mT T (nI k)) := lt_s (lt_s (lt_s (lt_s (lt_s (lt_s (lt_s (lt_s (lt_s (lt_s (lt_s (lt_s (lt_s (lt_s (lt_s (lt_s (all_8 h) (fun _ => dd_128 h)) (fun _ => dd_129 h)) (fun _ => dd_130 h)) (fun _ => dd_131 h)) (fun _ => dd_132 h)) (fun _ => dd_133 h)) (fun _ => dd_134 h)) (fun _ => dd_135 h)) (fun _ => dd_136 h)) (fun _ => dd_137 h)) (fun _ => dd_138 h)) (fun _ => dd_139 h)) (fun _ => dd_140 h)) (fun _ => dd_141 h)) (fun _ => dd_142 h)) (fun _ => dd_143 h)
theorem all_10 {S T : Sc} (h : RR S T) : ∀ k, k < 160 → 0 < k → RR (cT S (nI k)) (mT T (nI k)) := lt_s (lt_s (lt_s (lt_s (lt_s (lt_s (lt_s (lt_s (lt_s (lt_s (lt_s (lt_s (lt_s (lt_s (lt_s (lt_s (all_9 h) (fun _ => dd_144 h)) (fun _ => dd_145 h)) (fun _ => dd_146 h)) (fun _ => dd_147 h)) (fun _ => dd_148 h)) (fun _ => dd_149 h)) (fun _ => dd_150 h)) (fun _ => dd_151 h)) (fun _ => dd_152 h)) (fun _ => dd_153 h)) (fun _ => dd_154 h)) (fun _ => dd_155 h)) (fun _ => dd_156 h)) (fun _ => dd_157 h)) (fun _ => dd_158 h)) (fun _ => dd_159 h)
theorem all_11 {S T : Sc} (h : RR S T) : ∀ k, k < 176 → 0 < k → RR (cT S (nI k)) (mT T (nI k)) := lt_s (lt_s (lt_s (lt_s (lt_s (lt_s (lt_s (lt_s (lt_s (lt_s (lt_s (lt_s (lt_s (lt_s (lt_s (lt_s (all_10 h) (fun _ => dd_160 h)) (fun _ => dd_161 h)) (fun _ => dd_162 h)) (fun _ => dd_163 h)) (fun _ => dd_164 h)) (fun _ => dd_165 h)) (fun _ => dd_166 h)) (fun _ => dd_167 h)) (fun _ => dd_168 h)) (fun _ => dd_169 h)) (fun _ => dd_170 h)) (fun _ => dd_171 h)) (fun _ => dd_172 h)) (fun _ => dd_173 h)) (fun _ => dd_174 h)) (fun _ => dd_175 h)
theorem all_12 {S T : Sc} (h : RR S T) : ∀ k, k < 192 → 0 < k → RR (cT S (nI k)) (mT T (nI k)) := lt_s (lt_s (lt_s (lt_s (lt_s (lt_s (lt_s (lt_s (lt_s (lt_s (lt_s (lt_s (lt_s (lt_s (lt_s (lt_s (all_11 h) (fun _ => dd_176 h)) (fun _ => dd_177 h)) (fun _ => dd_178 h)) (fun _ => dd_179 h)) (fun _ => dd_180 h)) (fun _ => dd_181 h)) (fun _ => dd_182 h)) (fun _ => dd_183 h)) (fun _ => dd_184 h)) (fun _ => dd_185 h)) (fun _ => dd_186 h)) (fun _ => dd_187 h)) (fun _ => dd_188 h)) (fun _ => dd_189 h)) (fun _ => dd_190 h)) (fun _ => dd_191 h)
theorem all_13 {S T : Sc} (h : RR S T) : ∀ k, k < 208 → 0 < k → RR (cT S (nI k)) (mT T (nI k)) := lt_s (lt_s (lt_s (lt_s (lt_s (lt_s (lt_s (lt_s (lt_s (lt_s (lt_s (lt_s (lt_s (lt_s (lt_s (lt_s (all_12 h) (fun _ => dd_192 h)) (fun _ => dd_193 h)) (fun _ => dd_194 h)) (fun _ => dd_195 h)) (fun _ => dd_196 h)) (fun _ => dd_197 h)) (fun _ => dd_198 h)) (fun _ => dd_199 h)) (fun _ => dd_200 h)) (fun _ => dd_201 h)) (fun _ => dd_202 h)) (fun _ => dd_203 h)) (fun _ => dd_204 h)) (fun _ => dd_205 h)) (fun _ => dd_206 h)) (fun _ => dd_207 h)
theorem all_14 {S T : Sc} (h : RR S T) : ∀ k, k < 224 → 0 < k → RR (cT S (nI k)) (mT T (nI k)) := lt_s (lt_s (lt_s (lt_s (lt_s (lt_s (lt_s (lt_s (lt_s (lt_s (lt_s (lt_s (lt_s (lt_s (lt_s (lt_s (all_13 h) (fun _ => dd_208 h)) (fun _ => dd_209 h)) (fun _ => dd_210 h)) (fun _ => dd_211 h)) (fun _ => dd_212 h)) (fun _ => dd_213 h)) (fun _ => dd_214 h)) (fun _ => dd_215 h)) (fun _ => dd_216 h)) (fun _ => dd_217 h)) (fun _ => dd_218 h)) (fun _ => dd_219 h)) (fun _ => dd_220 h)) (fun _ => dd_221 h)) (fun _ => dd_222 h)) (fun _ => dd_223 h)
theorem all_15 {S T : Sc} (h : RR S T) : ∀ k, k < 240 → 0 < k → RR (cT S (nI k)) (mT T (nI k)) := lt_s (lt_s (lt_s (lt_s (lt_s (lt_s (lt_s (lt_s (lt_s (lt_s (lt_s (lt_s (lt_s (lt_s (lt_s (lt_s (all_14 h) (fun _ => dd_224 h)) (fun _ => dd_225 h)) (fun _ => dd_226 h)) (fun _ => dd_227 h)) (fun _ => dd_228 h)) (fun _ => dd_229 h)) (fun _ => dd_230 h)) (fun _ => dd_231 h)) (fun _ => dd_232 h)) (fun _ => dd_233 h)) (fun _ => dd_234 h)) (fun _ => dd_235 h)) (fun _ => dd_236 h)) (fun _ => dd_237 h)) (fun _ => dd_238 h)) (fun _ => dd_239 h)
theorem all_16 {S T : Sc} (h : RR S T) : ∀ k, k < 256 → 0 < k → RR (cT S (nI k)) (mT T (nI k)) := lt_s (lt_s (lt_s (lt_s (lt_s (lt_s (lt_s (lt_s (lt_s (lt_s (lt_s (lt_s (lt_s (lt_s (lt_s (lt_s (all_15 h) (fun _ => dd_240 h)) (fun _ => dd_241 h)) (fun _ => dd_242 h)) (fun _ => dd_243 h)) (fun _ => dd_244 h)) (fun _ => dd_245 h)) (fun _ => dd_246 h)) (fun _ => dd_247 h)) (fun _ => dd_248 h)) (fun _ => dd_249 h)) (fun _ => dd_250 h)) (fun _ => dd_251 h)) (fun _ => dd_252 h)) (fun _ => dd_253 h)) (fun _ => dd_254 h)) (fun _ => dd_255 h)
def cX (S : Sc) : Sc := bn (f_Opd_nextByte S) (fun r S2 => if r = (0 : Int32) then (bn (f_Opd_nextByte S2) (fun r3 S3 => bs (f_Prc_enterInterrupt S3 (486 : Int32)) (fun S4 => S4))) else (cT S2 r))
def mX (T : Sc) : Sc := bn (f_Mdl_next T) (fun r T2 => mT T2 r)
theorem mk_eq (S : Sc) : f_Prc_makeStep S = if S.1 10 = (0 : Int32) then (if S.1 11 = (0 : Int32) then (cX (pr S 13 (S.1 13 + (1 : Int32)))) else (if f_Reg_has (pr S 13 (S.1 13 + (1 : Int32))) (4 : Int32) = (0 : Int32) then (bs (f_Prc_enterInterrupt (pr S 13 (S.1 13 + (1 : Int32))) (494 : Int32)) (fun S4 => S4)) else (cX (pr S 13 (S.1 13 + (1 : Int32)))))) else (bs (f_Prc_enterInterrupt (pr (pr S 13 (S.1 13 + (1 : Int32))) 10 (0 : Int32)) (490 : Int32)) (fun S4 => S4)) := rfl
theorem st_eq (T : Sc) : f_Mdl_step T = if T.1 10 = (0 : Int32) then (if T.1 11 = (0 : Int32) then (mX (pr T 12 (T.1 12 + (1 : Int32)))) else (if f_Mdl_is (pr T 12 (T.1 12 + (1 : Int32))) (4 : Int32) = (0 : Int32) then (bs (f_Mdl_interruptFrom (pr T 12 (T.1 12 + (1 : Int32))) (494 : Int32)) (fun S4 => S4)) else (mX (pr T 12 (T.1 12 + (1 : Int32)))))) else (bs (f_Mdl_interruptFrom (pr (pr T 12 (T.1 12 + (1 : Int32))) 10 (0 : Int32)) (490 : Int32)) (fun S4 => S4)) := rfl
theorem em_00 (T : Sc) : f_Mdl_jump T 0 = ((1 : Int32), f_Mdl_interruptFrom (f_Mdl_next T).2 (486 : Int32)) := rfl
theorem bnbs (x : Int32 × Sc) (F : Sc → Sc) : bn x (fun _ S3 => bs (F S3) (fun S4 => S4)) = F x.2 := rfl
theorem pb_12 (S : Sc) (b : Int32) : (f_Stk_pushByte S b).1 12 = S.1 12 := rfl
theorem pw_12 (S : Sc) (b : Int32) : (f_Stk_pushWord S b).1 12 = S.1 12 := rfl
theorem pf4_12 (S : Sc) : (f_Reg_putFlag S 4 1).1 12 = S.1 12 := rfl
theorem pf8_12 (S : Sc) : (f_Reg_putFlag S 8 0).1 12 = S.1 12 := rfl
theorem crw_12 (S : Sc) (c : Int32) : (f_Bus_readWord S c).2.1 12 = S.1 12 := rfl
theorem pr6_12 (S : Sc) (v : Int32) : (pr S 6 v).1 12 = S.1 12 := rfl
theorem pr7_12 (S : Sc) (v : Int32) : (pr S 7 v).1 12 = S.1 12 := rfl
theorem nb_12 (S : Sc) : (f_Opd_nextByte S).2.1 12 = S.1 12 := rfl
theorem ei_12 (S : Sc) (x : Int32) : (f_Prc_enterInterrupt S x).1 12 = S.1 12 := by
  rw [ei_eq, pr7_12, crw_12, pr6_12, pf8_12, pf4_12, pb_12, pw_12, pb_12]
theorem R_9z {S T : Sc} (h : RR S T) (z : S.1 12 = 0) : RR S (pr T 9 (0 : Int32)) := by
  obtain ⟨⟨e0, e1, e2, e3, e4, e5, e6, e7, e8, e9, e10, e11, e12, e13⟩, g, hm, hl⟩ := h
  exact ⟨⟨e0, e1, e2, e3, e4, e5, e6, e7, e8, e9, e10, e11, z, e13⟩, g, hm, hl⟩
theorem s_X {S T : Sc} (h : RR S T) (hz : S.1 12 = 0) : RR (cX S) (mX T) := by
  obtain ⟨a1, a2, a3⟩ := s_next h
  have ec : cX S = if (f_Opd_nextByte S).1 = (0 : Int32) then (bn (f_Opd_nextByte (f_Opd_nextByte S).2) (fun r3 S3 => bs (f_Prc_enterInterrupt S3 (486 : Int32)) (fun S4 => S4))) else (cT (f_Opd_nextByte S).2 (f_Opd_nextByte S).1) := rfl
  have em : mX T = mT (f_Mdl_next T).2 (f_Mdl_next T).1 := rfl
  rw [ec, em, ← a1]
  obtain ⟨k, hk, ek⟩ := r8_nI a2
  by_cases z : (f_Opd_nextByte S).1 = (0 : Int32)
  · rw [if_pos z, z, show mT (f_Mdl_next T).2 0 = mC (f_Mdl_next T).2 0 from rfl, mC_4 rfl rfl rfl rfl (by rw [em_00]), em_00, bnbs]
    obtain ⟨b1, b2, b3⟩ := s_next a3
    exact R_9z (s_int b3 (by decide)) (by rw [ei_12, nb_12, nb_12]; exact hz)
  · rw [if_neg z, ek]
    refine all_16 a3 k hk (Nat.pos_of_ne_zero fun q => z ?_)
    rw [ek, q]; rfl
theorem s_step {S T : Sc} (h : RR S T) (hz : S.1 12 = 0) : RR (f_Prc_makeStep S) (f_Mdl_step T) := by
  have h1 : RR (pr S 13 (S.1 13 + (1 : Int32))) (pr T 12 (T.1 12 + (1 : Int32))) := R_13 h (by rw [RRe_13 h])
  have e10 := RRe_10 h
  have e11 := RRe_11 h
  rw [mk_eq, st_eq, ← e10, ← e11]
  by_cases a : S.1 10 = (0 : Int32)
  · rw [if_pos a, if_pos a]
    by_cases b : S.1 11 = (0 : Int32)
    · rw [if_pos b, if_pos b]
      exact s_X h1 hz
    · rw [if_neg b, if_neg b, has_is h1 4]
      by_cases c : f_Mdl_is (pr T 12 (T.1 12 + (1 : Int32))) (4 : Int32) = (0 : Int32)
      · rw [if_pos c, if_pos c, bs_id, bs_id]
        exact s_int h1 (by decide)
      · rw [if_neg c, if_neg c]
        exact s_X h1 hz
  · rw [if_neg a, if_neg a, bs_id, bs_id]
    exact s_int (R_10 h1 rfl (Or.inl rfl)) (by decide)
