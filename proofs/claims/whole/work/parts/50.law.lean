section MineL
variable {p : Program} {l : Launch} {e : Env} {R : Room} {s : State} {m : MethodId} {args : Array Value} {below : List Frame} {meth : Method} {c : Code} {H : Heap} {locs : List Loc} {cells slots : Nat} {Q : State → Prop}
variable {cc : ByteArray} {pc nL : Nat} {ls : Array Slot} {rest stk As : List Value} {D : va_G} {cB cI : ClassId} {w : Sc → va_W} {A : Nat → Prop} {bz : Nat} {own C : String} {S : Sc}
variable {y : MethodName} {bytes : ByteArray} {maxL n index b ci : Nat} {ret : Option FieldType} {rm : Room} {fs : List Value} {T : u_T} {N : Nat}
abbrev AL (s : State) : Nat → Prop := fun q => s.heap.size ≤ q
def LX (p : Program) (m : MethodId) (c : Code) (cc : ByteArray) (nL : Nat) (s : State) (args : Array Value) (own : String) (D : va_G) (cB cI : ClassId) (bz : Nat) : Prop :=
  CallFix p m c cc nL s args WS own ∧ va_K D classes (tysB cB cI) s ∧ va_Z R_Prc "BRANCH_FLAGS" "[I" (.ref bz) (AL s) s s.heap ∧ va_T .int bz 4 (fun j => .int (bf j)) (AL s) s s.heap
theorem LX_in (X : LX p m c cc nL s args own D cB cI bz) (hA : ∀ q, A q → AL s q) (hP : va_P D classes (w S) H) (hS : va_S (AL s) s.heap H locs) {U : State} (hU : U.heap = H) (hW : s.WarmedH U.vm) : PX D cB cI w A bz S U := by
  obtain ⟨-, hK, hZ, hT⟩ := X
  exact ⟨va_K.moved hW.alike hK, by rw [hU]; exact hP, by rw [hU]; exact ((va_Z.moved hW.alike hZ).narrow hA).kept (fun a ha _ => hS.2.1 a ha (Nat.not_le.mpr ha)), by rw [hU]; exact ((va_T.moved hW.alike hT).narrow hA).kept (fun a ha _ => hS.2.1 a ha (Nat.not_le.mpr ha))⟩
theorem lk_vs (X : LX p m c cc nL s args own D cB cI bz) (hA : ∀ q, A q → AL s q) (hP : va_P D classes (w S) H) (hS : va_S (AL s) s.heap H locs) {F : Int32 × Sc} (hM : MI l y bytes maxL ret rm (.ref b :: As) D cB cI w A bz S F) (cw : CallW R s args own C index y bytes maxL ret (Cond.code y bytes maxL ret :: WS) rm 0 0 n) (q0 : Nat) (he : (w S)[q0]? = some (b, .inr (ci, fs))) (hc : classes[ci]? = some (C, T, N)) (hn : As.length = n) (hsz : ls.size = nL) (hst : stk = As.reverse ++ .ref b :: rest) (hrm : 2 * (F0 m pc ls stk).monitorRoom + (rest.map fun v => v.category).sum ≤ 8) (hd : decode cc pc = .ok (.invokevirtual index, 3)) (hf : cells ≤ R.cells ∧ slots ≤ R.slots)
    (kk : ∀ (r : Int32) (u : Sc) (H1 : Heap) (locs1 : List Loc), F = (r, u) → va_P D classes (w u) H1 → va_S (AL s) s.heap H1 locs1 → (∀ q : Nat, q < H.size → ¬ A q → H1[q]? = H[q]?) → W p l e R s m args below meth c H1 locs1 cells slots Q (F0 m (pc + 3) ls (.int r :: rest))) : W p l e R s m args below meth c H locs cells slots Q (F0 m pc ls stk) :=
  va_calli (va_runV X.1 hM cw ⟨PX_blind, va_recv X.2.1 hP hc he, fun U hU hW => ⟨rfl, LX_in X hA hP hS hU hW⟩⟩ rfl hn hsz hst hrm hd hf) hS (fun q _ h => hA q h) hA (fun r u t H1 locs1 ht _ hp hb _ hk1 hS1 => kk r u H1 locs1 hp (by rw [← ht]; exact hb) hS1 hk1)
theorem lk_s (X : LX p m c cc nL s args own D cB cI bz) (hA : ∀ q, A q → AL s q) (hP : va_P D classes (w S) H) (hS : va_S (AL s) s.heap H locs) {F : Sc} (hM : MV l y bytes maxL rm (.ref b :: As) D cB cI w A bz S F) (cw : CallW R s args own C index y bytes maxL none (Cond.code y bytes maxL none :: WS) rm 0 0 n) (q0 : Nat) (he : (w S)[q0]? = some (b, .inr (ci, fs))) (hc : classes[ci]? = some (C, T, N)) (hn : As.length = n) (hsz : ls.size = nL) (hst : stk = As.reverse ++ .ref b :: rest) (hrm : 2 * (F0 m pc ls stk).monitorRoom + (rest.map fun v => v.category).sum ≤ 8) (hd : decode cc pc = .ok (.invokevirtual index, 3)) (hf : cells ≤ R.cells ∧ slots ≤ R.slots)
    (kk : ∀ (u : Sc) (H1 : Heap) (locs1 : List Loc), F = u → va_P D classes (w u) H1 → va_S (AL s) s.heap H1 locs1 → (∀ q : Nat, q < H.size → ¬ A q → H1[q]? = H[q]?) → W p l e R s m args below meth c H1 locs1 cells slots Q (F0 m (pc + 3) ls rest)) : W p l e R s m args below meth c H locs cells slots Q (F0 m pc ls stk) :=
  va_callv (va_runV X.1 hM cw ⟨PX_blind, va_recv X.2.1 hP hc he, fun U hU hW => ⟨rfl, LX_in X hA hP hS hU hW⟩⟩ rfl hn hsz hst hrm hd hf) hS (fun q _ h => hA q h) hA (fun u t H1 locs1 ht _ hp hb _ hk1 hS1 => kk u H1 locs1 hp (by rw [← ht]; exact hb) hS1 hk1)
theorem sw_tL (hx : p.tables.exec = Jvm.exec) (hb : c.code = cc) {dflt lo hi : Int} {offs : Array Int} {len : Nat} {x k : Int32} {tgt : Nat} (hd : decode cc pc = .ok (.tableswitch dflt lo hi offs, len)) (h : x = k) (hs : swT dflt lo hi offs k.toInt pc tgt = true)
    (kk : W p l e R s m args below meth c H locs cells slots Q (F0 m tgt ls rest)) : W p l e R s m args below meth c H locs cells slots Q (F0 m pc ls (.int x :: rest)) := by
  subst h
  unfold swT at hs
  split at hs
  · rename_i h
    exact lv_tableOut hx hb hd h (of_decide_eq_true hs) kk
  · rename_i h
    split at hs
    · rename_i off ho
      exact lv_tableIn hx hb hd (fun q => h (Or.inl q)) (fun q => h (Or.inr q)) ho (of_decide_eq_true hs) kk
    · cases hs
theorem keepT {a a2 : Nat → Nat} {T2 : Sc} {H1 : Heap} (hP : va_P D classes (wdT cI a2 T2) H) (hd : ∀ i j, i < 8 → j < 3 → a i ≠ a2 j) (hk : ∀ q : Nat, q < H.size → ¬ ow a 8 q → H1[q]? = H[q]?) : va_P D classes (wdT cI a2 T2) H1 :=
  hP.kept (fun k q h => hk q.1 ((hP k q h).lt) (fun z => by
    obtain ⟨i, hi, e⟩ := z
    obtain ⟨h1, h2⟩ := wdT_at h
    exact hd i k hi h1 (e.symm.trans h2)))
theorem keepC {a a2 : Nat → Nat} {S2 : Sc} {H1 : Heap} (hP : va_P D classes (wdC cB cI a S2) H) (hd : ∀ i j, i < 8 → j < 3 → a i ≠ a2 j) (hk : ∀ q : Nat, q < H.size → ¬ ow a2 3 q → H1[q]? = H[q]?) : va_P D classes (wdC cB cI a S2) H1 :=
  hP.kept (fun k q h => hk q.1 ((hP k q h).lt) (fun z => by
    obtain ⟨j, hj, e⟩ := z
    obtain ⟨h1, h2⟩ := wdC_at h
    exact hd k j h1 hj (h2.symm.trans e)))
end MineL
theorem inS {j L : Nat} (k : Nat) (h : 4 * j + k < L) (hL : L ≤ 2048) : vp_in (nI (4 * j) + nI k) L := by
  rw [nI_add]
  exact vp_in_nI h (by omega)
theorem cndL {j L : Nat} (hL : L ≤ 2048) (hj : j ≤ 4096) : (Int32.ofNat L - (4 : Int32) < nI (4 * j)) ↔ L < 4 * j + 4 := by
  show (nI L - (4 : Int32) < nI (4 * j)) ↔ L < 4 * j + 4
  by_cases h : 4 ≤ L
  · have e : nI L - (4 : Int32) = nI (L - 4) := by
      have e1 : nI L = nI (L - 4) + nI 4 := by rw [nI_add, Nat.sub_add_cancel h]
      rw [e1]
      exact Int32.add_sub_cancel _ _
    rw [e, nI_ltI (by omega) (by omega)]
    omega
  · have h0 : nI L - (4 : Int32) < nI 0 := by
      rcases (by omega : L = 0 ∨ L = 1 ∨ L = 2 ∨ L = 3) with rfl | rfl | rfl | rfl <;> decide
    constructor
    · intro _; omega
    · intro _
      exact Int32.lt_of_lt_of_le h0 ((nI_leI (by omega) (by omega)).mpr (by omega))
theorem zb_nar {x : Int32} (h : zb x) : narrow .boolean (.int x) = .int x := by
  rcases h with rfl | rfl
  · decide
  · decide
theorem RR0 : RR S0 T0 := ⟨⟨rfl, rfl, rfl, rfl, rfl, rfl, rfl, rfl, rfl, rfl, rfl, rfl, rfl, rfl⟩, ⟨by decide, by decide, by decide, by decide, by decide, by decide, by decide, by decide, by decide, Or.inl rfl, Or.inl rfl, Or.inl rfl⟩, fun k _ => by show (0 : Int32) &&& 255 = 0; decide, fun k _ => rfl⟩
set_option maxHeartbeats 8000000 in
set_option maxRecDepth 100000 in
theorem law_loop {p : Program} {e : Env} {s : State} {m : MethodId} {below : List Frame} {meth : Method} {c : Code} (l : Launch) {b L : Nat} {xs : Nat → Int32} {D : va_G} {cB cI : ClassId} {bz : Nat} {a a2 : Nat → Nat} (hL : L ≤ 2048) (X : LX p m c code 4 s #[Value.ref b] R_Law D cB cI bz) (hr : meth.sig.returnType = ret) (hlocks : meth.locks = false) (hX : va_X b L xs s s.heap) (hbl : b < s.heap.size) (ha : ap a 8) (ha2 : ap a2 3) (hA : ∀ q, ow a 8 q → AL s q) (hA2 : ∀ q, ow a2 3 q → AL s q) (hdj : ∀ i j, i < 8 → j < 3 → a i ≠ a2 j) : ∀ (n j : Nat), L < 4 * j + 4 * n + 4 → 4 * j ≤ L → ∀ (S T : Sc) (H : Heap) (locs : List Loc) (ls : Array Slot), RR S T → va_P D classes (wdC cB cI a S) H → va_P D classes (wdT cI a2 T) H → va_S (AL s) s.heap H locs → lv_has ls 4 [(3, .int (nI (4 * j))), (2, .ref (a2 0)), (1, .ref (a 0)), (0, .ref b)] → W p l e room_1 s m #[Value.ref b] below meth c H locs 11 2109 (lw_Z below #[Value.ref b] s) (F0 m 18 ls []) := by
  have hx := X.1.1
  have hb := X.1.2.1
  have hts := X.1.2.2.2.2
  have hbA : ¬ AL s b := Nat.not_le.mpr hbl
  intro n
  induction n with
  | zero =>
    intro j h1 h2 S T H locs ls hR hPc hPm hS hl
    refine lv_iload_n hx hb d_Law_law_18 rfl (lv_at hl 0 rfl) ?_
    refine lv_aload_n hx hb d_Law_law_19 rfl (lv_at hl 3 rfl) ?_
    refine va_slen hx hb hX hbl hbA hS d_Law_law_20 ?_
    refine lv_iconst (v := (4 : Int32)) hx hb d_Law_law_21 (by decide) ?_
    refine lv_isub hx hb d_Law_law_22 ?_
    refine lv_icmp_gt (tgt := 392) hx hb d_Law_law_23 rfl (fun h => ?_) (fun h => absurd ((cndL hL (by omega)).mpr (by omega)) h)
    refine lv_iconst (v := (1 : Int32)) hx hb d_Law_law_392 (by decide) ?_
    exact va_forget hS.2.2 (lw_ret hx hb hr hlocks d_Law_law_393)
  | succ n ih =>
    intro j h1 h2 S T H locs ls hR hPc hPm hS hl
    refine lv_iload_n hx hb d_Law_law_18 rfl (lv_at hl 0 rfl) ?_
    refine lv_aload_n hx hb d_Law_law_19 rfl (lv_at hl 3 rfl) ?_
    refine va_slen hx hb hX hbl hbA hS d_Law_law_20 ?_
    refine lv_iconst (v := (4 : Int32)) hx hb d_Law_law_21 (by decide) ?_
    refine lv_isub hx hb d_Law_law_22 ?_
    refine lv_icmp_gt (tgt := 392) hx hb d_Law_law_23 rfl (fun h => ?_) (fun h => ?_)
    · refine lv_iconst (v := (1 : Int32)) hx hb d_Law_law_392 (by decide) ?_
      exact va_forget hS.2.2 (lw_ret hx hb hr hlocks d_Law_law_393)
    rw [cndL hL (by omega)] at h
    have hend : ∀ (S1 T1 : Sc) (H1 : Heap) (locs1 : List Loc), RR S1 T1 → va_P D classes (wdC cB cI a S1) H1 → va_P D classes (wdT cI a2 T1) H1 → va_S (AL s) s.heap H1 locs1 → W p l e room_1 s m #[Value.ref b] below meth c H1 locs1 11 2109 (lw_Z below #[Value.ref b] s) (F0 m 386 ls []) := by
      intro S1 T1 H1 locs1 hR1 hP1 hP2 hS1
      refine lv_iinc (k := 0) (v := nI (4 * (j + 1))) hx hb d_Law_law_386 hl rfl (by rw [show 4 * (j + 1) = 4 * j + 4 from rfl, ← nI_add]; rfl) (Nat.le_of_ble_eq_true rfl) rfl (fun ls hl => ?_)
      refine lv_goto (tgt := 18) hx hb d_Law_law_389 rfl ?_
      exact ih (j + 1) (by omega) (by omega) S1 T1 H1 locs1 ls hR1 hP1 hP2 hS1 hl
    refine lv_aload_n hx hb d_Law_law_26 rfl (lv_at hl 3 rfl) ?_
    refine lv_iload_n hx hb d_Law_law_27 rfl (lv_at hl 0 rfl) ?_
    refine va_sld hx hb hX hbl hbA hS (vp_in_nI (by omega) (by omega)) d_Law_law_28 ?_
    refine lv_bipush (v := (15 : Int32)) hx hb d_Law_law_29 (by decide) ?_
    refine lv_iand hx hb d_Law_law_31 ?_
    generalize (xs (nI (4 * j)).toNatClampNeg &&& (15 : Int32)) = sel
    by_cases g0 : sel = (0 : Int32)
    · refine sw_tL (k := (0 : Int32)) (tgt := 96) hx hb d_Law_law_32 g0 rfl ?_
      refine lv_aload_n hx hb d_Law_law_96 rfl (lv_at hl 2 rfl) ?_
      refine lv_aload_n hx hb d_Law_law_97 rfl (lv_at hl 3 rfl) ?_
      refine lv_iload_n hx hb d_Law_law_98 rfl (lv_at hl 0 rfl) ?_
      refine lv_iconst (v := (1 : Int32)) hx hb d_Law_law_99 (by decide) ?_
      refine lv_iadd hx hb d_Law_law_100 ?_
      refine va_sld hx hb hX hbl hbA hS (inS 1 (by omega) hL) d_Law_law_101 ?_
      refine lv_aload_n hx hb d_Law_law_102 rfl (lv_at hl 3 rfl) ?_
      refine lv_iload_n hx hb d_Law_law_103 rfl (lv_at hl 0 rfl) ?_
      refine lv_iconst (v := (2 : Int32)) hx hb d_Law_law_104 (by decide) ?_
      refine lv_iadd hx hb d_Law_law_105 ?_
      refine va_sld hx hb hX hbl hbA hS (inS 2 (by omega) hL) d_Law_law_106 ?_
      refine lv_aload_n hx hb d_Law_law_107 rfl (lv_at hl 3 rfl) ?_
      refine lv_iload_n hx hb d_Law_law_108 rfl (lv_at hl 0 rfl) ?_
      refine lv_iconst (v := (3 : Int32)) hx hb d_Law_law_109 (by decide) ?_
      refine lv_iadd hx hb d_Law_law_110 ?_
      refine va_sld hx hb hX hbl hbA hS (inS 3 (by omega) hL) d_Law_law_111 ?_
      refine lk_vs (rest := []) X hA hPc hS (c_Wc_poke l D cB cI a bz ha S (xs (nI (4 * j) + (1 : Int32)).toNatClampNeg) (xs (nI (4 * j) + (2 : Int32)).toNatClampNeg) (xs (nI (4 * j) + (3 : Int32)).toNatClampNeg)) (kw_Wc_poke hts q_233 ⟨Nat.le_of_ble_eq_true rfl, Nat.le_of_ble_eq_true rfl⟩) 0 rfl rfl rfl hl.1 rfl (lv_room (Nat.le_of_ble_eq_true rfl)) d_Law_law_112 ⟨Nat.le_of_ble_eq_true rfl, Nat.le_of_ble_eq_true rfl⟩ (fun r112 u112 H1 locs e112 hPc hS hk1 => ?_)
      have hPm := keepT hPm hdj hk1
      clear hk1
      refine lv_aload_n hx hb d_Law_law_115 rfl (lv_at hl 1 rfl) ?_
      refine lv_aload_n hx hb d_Law_law_116 rfl (lv_at hl 3 rfl) ?_
      refine lv_iload_n hx hb d_Law_law_117 rfl (lv_at hl 0 rfl) ?_
      refine lv_iconst (v := (1 : Int32)) hx hb d_Law_law_118 (by decide) ?_
      refine lv_iadd hx hb d_Law_law_119 ?_
      refine va_sld hx hb hX hbl hbA hS (inS 1 (by omega) hL) d_Law_law_120 ?_
      refine lv_aload_n hx hb d_Law_law_121 rfl (lv_at hl 3 rfl) ?_
      refine lv_iload_n hx hb d_Law_law_122 rfl (lv_at hl 0 rfl) ?_
      refine lv_iconst (v := (2 : Int32)) hx hb d_Law_law_123 (by decide) ?_
      refine lv_iadd hx hb d_Law_law_124 ?_
      refine va_sld hx hb hX hbl hbA hS (inS 2 (by omega) hL) d_Law_law_125 ?_
      refine lv_aload_n hx hb d_Law_law_126 rfl (lv_at hl 3 rfl) ?_
      refine lv_iload_n hx hb d_Law_law_127 rfl (lv_at hl 0 rfl) ?_
      refine lv_iconst (v := (3 : Int32)) hx hb d_Law_law_128 (by decide) ?_
      refine lv_iadd hx hb d_Law_law_129 ?_
      refine va_sld hx hb hX hbl hbA hS (inS 3 (by omega) hL) d_Law_law_130 ?_
      refine lk_vs (rest := [.int r112]) X hA2 hPm hS (c_Mdl_poke l D cB cI a2 bz ha2 T (xs (nI (4 * j) + (1 : Int32)).toNatClampNeg) (xs (nI (4 * j) + (2 : Int32)).toNatClampNeg) (xs (nI (4 * j) + (3 : Int32)).toNatClampNeg)) (kw_Mdl_poke hts q_618 ⟨Nat.le_of_ble_eq_true rfl, Nat.le_of_ble_eq_true rfl⟩) 0 rfl rfl rfl hl.1 rfl (lv_room (Nat.le_of_ble_eq_true rfl)) d_Law_law_131 ⟨Nat.le_of_ble_eq_true rfl, Nat.le_of_ble_eq_true rfl⟩ (fun r131 u131 H1 locs e131 hPm hS hk1 => ?_)
      have hPc := keepC hPc hdj hk1
      clear hk1
      have hq := p_poke hR (xs (nI (4 * j) + (1 : Int32)).toNatClampNeg) (xs (nI (4 * j) + (2 : Int32)).toNatClampNeg) (xs (nI (4 * j) + (3 : Int32)).toNatClampNeg)
      rw [e112, e131] at hq
      refine lv_icmp_eq (tgt := 386) hx hb d_Law_law_134 rfl (fun _ => ?_) (fun h => absurd hq.1 h)
      exact hend _ _ _ _ hq.2 hPc hPm hS
    by_cases g1 : sel = (1 : Int32)
    · refine sw_tL (k := (1 : Int32)) (tgt := 139) hx hb d_Law_law_32 g1 rfl ?_
      refine lv_aload_n hx hb d_Law_law_139 rfl (lv_at hl 2 rfl) ?_
      refine lv_aload_n hx hb d_Law_law_140 rfl (lv_at hl 3 rfl) ?_
      refine lv_iload_n hx hb d_Law_law_141 rfl (lv_at hl 0 rfl) ?_
      refine lv_iconst (v := (1 : Int32)) hx hb d_Law_law_142 (by decide) ?_
      refine lv_iadd hx hb d_Law_law_143 ?_
      refine va_sld hx hb hX hbl hbA hS (inS 1 (by omega) hL) d_Law_law_144 ?_
      refine lk_vs (rest := []) X hA hPc hS (c_Wc_peek l D cB cI a bz ha S (xs (nI (4 * j) + (1 : Int32)).toNatClampNeg)) (kw_Wc_peek hts q_237 ⟨Nat.le_of_ble_eq_true rfl, Nat.le_of_ble_eq_true rfl⟩) 0 rfl rfl rfl hl.1 rfl (lv_room (Nat.le_of_ble_eq_true rfl)) d_Law_law_145 ⟨Nat.le_of_ble_eq_true rfl, Nat.le_of_ble_eq_true rfl⟩ (fun r145 u145 H1 locs e145 hPc hS hk1 => ?_)
      have hPm := keepT hPm hdj hk1
      clear hk1
      refine lv_aload_n hx hb d_Law_law_148 rfl (lv_at hl 1 rfl) ?_
      refine lv_aload_n hx hb d_Law_law_149 rfl (lv_at hl 3 rfl) ?_
      refine lv_iload_n hx hb d_Law_law_150 rfl (lv_at hl 0 rfl) ?_
      refine lv_iconst (v := (1 : Int32)) hx hb d_Law_law_151 (by decide) ?_
      refine lv_iadd hx hb d_Law_law_152 ?_
      refine va_sld hx hb hX hbl hbA hS (inS 1 (by omega) hL) d_Law_law_153 ?_
      refine lk_vs (rest := [.int r145]) X hA2 hPm hS (c_Mdl_peek l D cB cI a2 bz ha2 T (xs (nI (4 * j) + (1 : Int32)).toNatClampNeg)) (kw_Mdl_peek hts q_622 ⟨Nat.le_of_ble_eq_true rfl, Nat.le_of_ble_eq_true rfl⟩) 0 rfl rfl rfl hl.1 rfl (lv_room (Nat.le_of_ble_eq_true rfl)) d_Law_law_154 ⟨Nat.le_of_ble_eq_true rfl, Nat.le_of_ble_eq_true rfl⟩ (fun r154 u154 H1 locs e154 hPm hS hk1 => ?_)
      have hPc := keepC hPc hdj hk1
      clear hk1
      obtain ⟨q1, q2⟩ := Prod.mk.inj e145
      obtain ⟨q3, q4⟩ := Prod.mk.inj e154
      refine lv_icmp_eq (tgt := 386) hx hb d_Law_law_157 rfl (fun _ => ?_) (fun h => absurd (q1.symm.trans ((p_peek hR _).trans q3)) h)
      exact hend _ _ _ _ (by rw [← q2, ← q4]; exact hR) hPc hPm hS
    by_cases g2 : sel = (2 : Int32)
    · refine sw_tL (k := (2 : Int32)) (tgt := 162) hx hb d_Law_law_32 g2 rfl ?_
      refine lv_aload_n hx hb d_Law_law_162 rfl (lv_at hl 2 rfl) ?_
      refine lv_aload_n hx hb d_Law_law_163 rfl (lv_at hl 3 rfl) ?_
      refine lv_iload_n hx hb d_Law_law_164 rfl (lv_at hl 0 rfl) ?_
      refine lv_iconst (v := (1 : Int32)) hx hb d_Law_law_165 (by decide) ?_
      refine lv_iadd hx hb d_Law_law_166 ?_
      refine va_sld hx hb hX hbl hbA hS (inS 1 (by omega) hL) d_Law_law_167 ?_
      refine lv_aload_n hx hb d_Law_law_168 rfl (lv_at hl 3 rfl) ?_
      refine lv_iload_n hx hb d_Law_law_169 rfl (lv_at hl 0 rfl) ?_
      refine lv_iconst (v := (2 : Int32)) hx hb d_Law_law_170 (by decide) ?_
      refine lv_iadd hx hb d_Law_law_171 ?_
      refine va_sld hx hb hX hbl hbA hS (inS 2 (by omega) hL) d_Law_law_172 ?_
      refine lk_vs (rest := []) X hA hPc hS (c_Wc_start l D cB cI a bz ha S (xs (nI (4 * j) + (1 : Int32)).toNatClampNeg) (xs (nI (4 * j) + (2 : Int32)).toNatClampNeg)) (kw_Wc_start hts q_241 ⟨Nat.le_of_ble_eq_true rfl, Nat.le_of_ble_eq_true rfl⟩) 0 rfl rfl rfl hl.1 rfl (lv_room (Nat.le_of_ble_eq_true rfl)) d_Law_law_173 ⟨Nat.le_of_ble_eq_true rfl, Nat.le_of_ble_eq_true rfl⟩ (fun r173 u173 H1 locs e173 hPc hS hk1 => ?_)
      have hPm := keepT hPm hdj hk1
      clear hk1
      refine lv_aload_n hx hb d_Law_law_176 rfl (lv_at hl 1 rfl) ?_
      refine lv_aload_n hx hb d_Law_law_177 rfl (lv_at hl 3 rfl) ?_
      refine lv_iload_n hx hb d_Law_law_178 rfl (lv_at hl 0 rfl) ?_
      refine lv_iconst (v := (1 : Int32)) hx hb d_Law_law_179 (by decide) ?_
      refine lv_iadd hx hb d_Law_law_180 ?_
      refine va_sld hx hb hX hbl hbA hS (inS 1 (by omega) hL) d_Law_law_181 ?_
      refine lv_aload_n hx hb d_Law_law_182 rfl (lv_at hl 3 rfl) ?_
      refine lv_iload_n hx hb d_Law_law_183 rfl (lv_at hl 0 rfl) ?_
      refine lv_iconst (v := (2 : Int32)) hx hb d_Law_law_184 (by decide) ?_
      refine lv_iadd hx hb d_Law_law_185 ?_
      refine va_sld hx hb hX hbl hbA hS (inS 2 (by omega) hL) d_Law_law_186 ?_
      refine lk_vs (rest := [.int r173]) X hA2 hPm hS (c_Mdl_start l D cB cI a2 bz ha2 T (xs (nI (4 * j) + (1 : Int32)).toNatClampNeg) (xs (nI (4 * j) + (2 : Int32)).toNatClampNeg)) (kw_Mdl_start hts q_626 ⟨Nat.le_of_ble_eq_true rfl, Nat.le_of_ble_eq_true rfl⟩) 0 rfl rfl rfl hl.1 rfl (lv_room (Nat.le_of_ble_eq_true rfl)) d_Law_law_187 ⟨Nat.le_of_ble_eq_true rfl, Nat.le_of_ble_eq_true rfl⟩ (fun r187 u187 H1 locs e187 hPm hS hk1 => ?_)
      have hPc := keepC hPc hdj hk1
      clear hk1
      have hq := p_start hR (xs (nI (4 * j) + (1 : Int32)).toNatClampNeg) (xs (nI (4 * j) + (2 : Int32)).toNatClampNeg)
      rw [e173, e187] at hq
      refine lv_icmp_eq (tgt := 386) hx hb d_Law_law_190 rfl (fun _ => ?_) (fun h => absurd hq.1 h)
      exact hend _ _ _ _ hq.2 hPc hPm hS
    by_cases g3 : sel = (3 : Int32)
    · refine sw_tL (k := (3 : Int32)) (tgt := 195) hx hb d_Law_law_32 g3 rfl ?_
      refine lv_aload_n hx hb d_Law_law_195 rfl (lv_at hl 2 rfl) ?_
      refine lv_aload_n hx hb d_Law_law_196 rfl (lv_at hl 3 rfl) ?_
      refine lv_iload_n hx hb d_Law_law_197 rfl (lv_at hl 0 rfl) ?_
      refine lv_iconst (v := (1 : Int32)) hx hb d_Law_law_198 (by decide) ?_
      refine lv_iadd hx hb d_Law_law_199 ?_
      refine va_sld hx hb hX hbl hbA hS (inS 1 (by omega) hL) d_Law_law_200 ?_
      refine lv_aload_n hx hb d_Law_law_201 rfl (lv_at hl 3 rfl) ?_
      refine lv_iload_n hx hb d_Law_law_202 rfl (lv_at hl 0 rfl) ?_
      refine lv_iconst (v := (2 : Int32)) hx hb d_Law_law_203 (by decide) ?_
      refine lv_iadd hx hb d_Law_law_204 ?_
      refine va_sld hx hb hX hbl hbA hS (inS 2 (by omega) hL) d_Law_law_205 ?_
      refine lk_vs (rest := []) X hA hPc hS (c_Wc_set l D cB cI a bz ha S (xs (nI (4 * j) + (1 : Int32)).toNatClampNeg) (xs (nI (4 * j) + (2 : Int32)).toNatClampNeg)) (kw_Wc_set hts q_246 ⟨Nat.le_of_ble_eq_true rfl, Nat.le_of_ble_eq_true rfl⟩) 0 rfl rfl rfl hl.1 rfl (lv_room (Nat.le_of_ble_eq_true rfl)) d_Law_law_206 ⟨Nat.le_of_ble_eq_true rfl, Nat.le_of_ble_eq_true rfl⟩ (fun r206 u206 H1 locs e206 hPc hS hk1 => ?_)
      have hPm := keepT hPm hdj hk1
      clear hk1
      refine lv_aload_n hx hb d_Law_law_209 rfl (lv_at hl 1 rfl) ?_
      refine lv_aload_n hx hb d_Law_law_210 rfl (lv_at hl 3 rfl) ?_
      refine lv_iload_n hx hb d_Law_law_211 rfl (lv_at hl 0 rfl) ?_
      refine lv_iconst (v := (1 : Int32)) hx hb d_Law_law_212 (by decide) ?_
      refine lv_iadd hx hb d_Law_law_213 ?_
      refine va_sld hx hb hX hbl hbA hS (inS 1 (by omega) hL) d_Law_law_214 ?_
      refine lv_aload_n hx hb d_Law_law_215 rfl (lv_at hl 3 rfl) ?_
      refine lv_iload_n hx hb d_Law_law_216 rfl (lv_at hl 0 rfl) ?_
      refine lv_iconst (v := (2 : Int32)) hx hb d_Law_law_217 (by decide) ?_
      refine lv_iadd hx hb d_Law_law_218 ?_
      refine va_sld hx hb hX hbl hbA hS (inS 2 (by omega) hL) d_Law_law_219 ?_
      refine lk_vs (rest := [.int r206]) X hA2 hPm hS (c_Mdl_set l D cB cI a2 bz ha2 T (xs (nI (4 * j) + (1 : Int32)).toNatClampNeg) (xs (nI (4 * j) + (2 : Int32)).toNatClampNeg)) (kw_Mdl_set hts q_631 ⟨Nat.le_of_ble_eq_true rfl, Nat.le_of_ble_eq_true rfl⟩) 0 rfl rfl rfl hl.1 rfl (lv_room (Nat.le_of_ble_eq_true rfl)) d_Law_law_220 ⟨Nat.le_of_ble_eq_true rfl, Nat.le_of_ble_eq_true rfl⟩ (fun r220 u220 H1 locs e220 hPm hS hk1 => ?_)
      have hPc := keepC hPc hdj hk1
      clear hk1
      have hq := p_set hR (xs (nI (4 * j) + (1 : Int32)).toNatClampNeg) (xs (nI (4 * j) + (2 : Int32)).toNatClampNeg)
      rw [e206, e220] at hq
      refine lv_icmp_eq (tgt := 386) hx hb d_Law_law_223 rfl (fun _ => ?_) (fun h => absurd hq.1 h)
      exact hend _ _ _ _ hq.2 hPc hPm hS
    by_cases g4 : sel = (4 : Int32)
    · refine sw_tL (k := (4 : Int32)) (tgt := 228) hx hb d_Law_law_32 g4 rfl ?_
      refine lv_aload_n hx hb d_Law_law_228 rfl (lv_at hl 2 rfl) ?_
      refine lv_aload_n hx hb d_Law_law_229 rfl (lv_at hl 3 rfl) ?_
      refine lv_iload_n hx hb d_Law_law_230 rfl (lv_at hl 0 rfl) ?_
      refine lv_iconst (v := (1 : Int32)) hx hb d_Law_law_231 (by decide) ?_
      refine lv_iadd hx hb d_Law_law_232 ?_
      refine va_sld hx hb hX hbl hbA hS (inS 1 (by omega) hL) d_Law_law_233 ?_
      refine lk_vs (rest := []) X hA hPc hS (c_Wc_register l D cB cI a bz ha S (xs (nI (4 * j) + (1 : Int32)).toNatClampNeg)) (kw_Wc_register hts q_267 ⟨Nat.le_of_ble_eq_true rfl, Nat.le_of_ble_eq_true rfl⟩) 0 rfl rfl rfl hl.1 rfl (lv_room (Nat.le_of_ble_eq_true rfl)) d_Law_law_234 ⟨Nat.le_of_ble_eq_true rfl, Nat.le_of_ble_eq_true rfl⟩ (fun r234 u234 H1 locs e234 hPc hS hk1 => ?_)
      have hPm := keepT hPm hdj hk1
      clear hk1
      refine lv_aload_n hx hb d_Law_law_237 rfl (lv_at hl 1 rfl) ?_
      refine lv_aload_n hx hb d_Law_law_238 rfl (lv_at hl 3 rfl) ?_
      refine lv_iload_n hx hb d_Law_law_239 rfl (lv_at hl 0 rfl) ?_
      refine lv_iconst (v := (1 : Int32)) hx hb d_Law_law_240 (by decide) ?_
      refine lv_iadd hx hb d_Law_law_241 ?_
      refine va_sld hx hb hX hbl hbA hS (inS 1 (by omega) hL) d_Law_law_242 ?_
      refine lk_vs (rest := [.int r234]) X hA2 hPm hS (c_Mdl_register l D cB cI a2 bz ha2 T (xs (nI (4 * j) + (1 : Int32)).toNatClampNeg)) (kw_Mdl_register hts q_647 ⟨Nat.le_of_ble_eq_true rfl, Nat.le_of_ble_eq_true rfl⟩) 0 rfl rfl rfl hl.1 rfl (lv_room (Nat.le_of_ble_eq_true rfl)) d_Law_law_243 ⟨Nat.le_of_ble_eq_true rfl, Nat.le_of_ble_eq_true rfl⟩ (fun r243 u243 H1 locs e243 hPm hS hk1 => ?_)
      have hPc := keepC hPc hdj hk1
      clear hk1
      obtain ⟨q1, q2⟩ := Prod.mk.inj e234
      obtain ⟨q3, q4⟩ := Prod.mk.inj e243
      refine lv_icmp_eq (tgt := 386) hx hb d_Law_law_246 rfl (fun _ => ?_) (fun h => absurd (q1.symm.trans ((p_register hR _).trans q3)) h)
      exact hend _ _ _ _ (by rw [← q2, ← q4]; exact hR) hPc hPm hS
    by_cases g5 : sel = (5 : Int32)
    · refine sw_tL (k := (5 : Int32)) (tgt := 251) hx hb d_Law_law_32 g5 rfl ?_
      refine lv_aload_n hx hb d_Law_law_251 rfl (lv_at hl 2 rfl) ?_
      refine lv_aload_n hx hb d_Law_law_252 rfl (lv_at hl 3 rfl) ?_
      refine lv_iload_n hx hb d_Law_law_253 rfl (lv_at hl 0 rfl) ?_
      refine lv_iconst (v := (1 : Int32)) hx hb d_Law_law_254 (by decide) ?_
      refine lv_iadd hx hb d_Law_law_255 ?_
      refine va_sld hx hb hX hbl hbA hS (inS 1 (by omega) hL) d_Law_law_256 ?_
      refine lk_vs (rest := []) X hA hPc hS (c_Wc_run l D cB cI a bz ha S (xs (nI (4 * j) + (1 : Int32)).toNatClampNeg)) (kw_Wc_run hts q_271 ⟨Nat.le_of_ble_eq_true rfl, Nat.le_of_ble_eq_true rfl⟩) 0 rfl rfl rfl hl.1 rfl (lv_room (Nat.le_of_ble_eq_true rfl)) d_Law_law_257 ⟨Nat.le_of_ble_eq_true rfl, Nat.le_of_ble_eq_true rfl⟩ (fun r257 u257 H1 locs e257 hPc hS hk1 => ?_)
      have hPm := keepT hPm hdj hk1
      clear hk1
      refine lv_aload_n hx hb d_Law_law_260 rfl (lv_at hl 1 rfl) ?_
      refine lv_aload_n hx hb d_Law_law_261 rfl (lv_at hl 3 rfl) ?_
      refine lv_iload_n hx hb d_Law_law_262 rfl (lv_at hl 0 rfl) ?_
      refine lv_iconst (v := (1 : Int32)) hx hb d_Law_law_263 (by decide) ?_
      refine lv_iadd hx hb d_Law_law_264 ?_
      refine va_sld hx hb hX hbl hbA hS (inS 1 (by omega) hL) d_Law_law_265 ?_
      refine lk_vs (rest := [.int r257]) X hA2 hPm hS (c_Mdl_run l D cB cI a2 bz ha2 T (xs (nI (4 * j) + (1 : Int32)).toNatClampNeg)) (kw_Mdl_run hts q_651 ⟨Nat.le_of_ble_eq_true rfl, Nat.le_of_ble_eq_true rfl⟩) 0 rfl rfl rfl hl.1 rfl (lv_room (Nat.le_of_ble_eq_true rfl)) d_Law_law_266 ⟨Nat.le_of_ble_eq_true rfl, Nat.le_of_ble_eq_true rfl⟩ (fun r266 u266 H1 locs e266 hPm hS hk1 => ?_)
      have hPc := keepC hPc hdj hk1
      clear hk1
      have hq := p_run hR (xs (nI (4 * j) + (1 : Int32)).toNatClampNeg)
      rw [e257, e266] at hq
      refine lv_icmp_eq (tgt := 386) hx hb d_Law_law_269 rfl (fun _ => ?_) (fun h => absurd hq.1 h)
      exact hend _ _ _ _ hq.2 hPc hPm hS
    by_cases g6 : sel = (6 : Int32)
    · refine sw_tL (k := (6 : Int32)) (tgt := 274) hx hb d_Law_law_32 g6 rfl ?_
      refine lv_aload_n hx hb d_Law_law_274 rfl (lv_at hl 2 rfl) ?_
      refine lk_vs (rest := []) X hA hPc hS (c_Wc_stopped l D cB cI a bz ha S (zb_nar (RRr_12 hR))) (kw_Wc_stopped hts q_529 ⟨Nat.le_of_ble_eq_true rfl, Nat.le_of_ble_eq_true rfl⟩) 0 rfl rfl rfl hl.1 rfl (lv_room (Nat.le_of_ble_eq_true rfl)) d_Law_law_275 ⟨Nat.le_of_ble_eq_true rfl, Nat.le_of_ble_eq_true rfl⟩ (fun r275 u275 H1 locs e275 hPc hS hk1 => ?_)
      have hPm := keepT hPm hdj hk1
      clear hk1
      refine lv_aload_n hx hb d_Law_law_278 rfl (lv_at hl 1 rfl) ?_
      refine lk_vs (rest := [.int r275]) X hA2 hPm hS (c_Mdl_stopped l D cB cI a2 bz ha2 T (zb_nar (by rw [← RRe_12 hR]; exact RRr_12 hR))) (kw_Mdl_stopped hts q_838 ⟨Nat.le_of_ble_eq_true rfl, Nat.le_of_ble_eq_true rfl⟩) 0 rfl rfl rfl hl.1 rfl (lv_room (Nat.le_of_ble_eq_true rfl)) d_Law_law_279 ⟨Nat.le_of_ble_eq_true rfl, Nat.le_of_ble_eq_true rfl⟩ (fun r279 u279 H1 locs e279 hPm hS hk1 => ?_)
      have hPc := keepC hPc hdj hk1
      clear hk1
      obtain ⟨q1, q2⟩ := Prod.mk.inj e275
      obtain ⟨q3, q4⟩ := Prod.mk.inj e279
      refine lv_icmp_eq (tgt := 386) hx hb d_Law_law_282 rfl (fun _ => ?_) (fun h => absurd (q1.symm.trans ((RRe_12 hR).trans q3)) h)
      exact hend _ _ _ _ (by rw [← q2, ← q4]; exact hR) hPc hPm hS
    by_cases g7 : sel = (7 : Int32)
    · refine sw_tL (k := (7 : Int32)) (tgt := 287) hx hb d_Law_law_32 g7 rfl ?_
      refine lv_aload_n hx hb d_Law_law_287 rfl (lv_at hl 2 rfl) ?_
      refine lk_vs (rest := []) X hA hPc hS (c_Wc_interrupt l D cB cI a bz ha S) (kw_Wc_interrupt hts q_533 ⟨Nat.le_of_ble_eq_true rfl, Nat.le_of_ble_eq_true rfl⟩) 0 rfl rfl rfl hl.1 rfl (lv_room (Nat.le_of_ble_eq_true rfl)) d_Law_law_288 ⟨Nat.le_of_ble_eq_true rfl, Nat.le_of_ble_eq_true rfl⟩ (fun r288 u288 H1 locs e288 hPc hS hk1 => ?_)
      have hPm := keepT hPm hdj hk1
      clear hk1
      refine lv_aload_n hx hb d_Law_law_291 rfl (lv_at hl 1 rfl) ?_
      refine lk_vs (rest := [.int r288]) X hA2 hPm hS (c_Mdl_interrupt l D cB cI a2 bz ha2 T) (kw_Mdl_interrupt hts q_842 ⟨Nat.le_of_ble_eq_true rfl, Nat.le_of_ble_eq_true rfl⟩) 0 rfl rfl rfl hl.1 rfl (lv_room (Nat.le_of_ble_eq_true rfl)) d_Law_law_292 ⟨Nat.le_of_ble_eq_true rfl, Nat.le_of_ble_eq_true rfl⟩ (fun r292 u292 H1 locs e292 hPm hS hk1 => ?_)
      have hPc := keepC hPc hdj hk1
      clear hk1
      have hq := p_interrupt hR
      rw [e288, e292] at hq
      refine lv_icmp_eq (tgt := 386) hx hb d_Law_law_295 rfl (fun _ => ?_) (fun h => absurd hq.1 h)
      exact hend _ _ _ _ hq.2 hPc hPm hS
    by_cases g8 : sel = (8 : Int32)
    · refine sw_tL (k := (8 : Int32)) (tgt := 300) hx hb d_Law_law_32 g8 rfl ?_
      by_cases z : xs (nI (4 * j) + (1 : Int32)).toNatClampNeg = (0 : Int32)
      ·
        refine lv_aload_n hx hb d_Law_law_300 rfl (lv_at hl 2 rfl) ?_
        refine lv_aload_n hx hb d_Law_law_301 rfl (lv_at hl 3 rfl) ?_
        refine lv_iload_n hx hb d_Law_law_302 rfl (lv_at hl 0 rfl) ?_
        refine lv_iconst (v := (1 : Int32)) hx hb d_Law_law_303 (by decide) ?_
        refine lv_iadd hx hb d_Law_law_304 ?_
        refine va_sld hx hb hX hbl hbA hS (inS 1 (by omega) hL) d_Law_law_305 ?_
        refine lv_if_eq (tgt := 313) hx hb d_Law_law_306 rfl (fun _ => ?_) (fun h => absurd z h)
        refine lv_iconst (v := (0 : Int32)) hx hb d_Law_law_313 (by decide) ?_
        refine lk_s (rest := []) X hA hPc hS (c_Wc_line l D cB cI a bz ha S ((0 : Int32)) rfl rfl) (kw_Wc_line hts q_537 ⟨Nat.le_of_ble_eq_true rfl, Nat.le_of_ble_eq_true rfl⟩) 0 rfl rfl rfl hl.1 rfl (lv_room (Nat.le_of_ble_eq_true rfl)) d_Law_law_314 ⟨Nat.le_of_ble_eq_true rfl, Nat.le_of_ble_eq_true rfl⟩ (fun u314 H1 locs e314 hPc hS hk1 => ?_)
        have hPm := keepT hPm hdj hk1
        clear hk1
        refine lv_aload_n hx hb d_Law_law_317 rfl (lv_at hl 1 rfl) ?_
        refine lv_aload_n hx hb d_Law_law_318 rfl (lv_at hl 3 rfl) ?_
        refine lv_iload_n hx hb d_Law_law_319 rfl (lv_at hl 0 rfl) ?_
        refine lv_iconst (v := (1 : Int32)) hx hb d_Law_law_320 (by decide) ?_
        refine lv_iadd hx hb d_Law_law_321 ?_
        refine va_sld hx hb hX hbl hbA hS (inS 1 (by omega) hL) d_Law_law_322 ?_
        refine lv_if_eq (tgt := 330) hx hb d_Law_law_323 rfl (fun _ => ?_) (fun h => absurd z h)
        refine lv_iconst (v := (0 : Int32)) hx hb d_Law_law_330 (by decide) ?_
        refine lk_s (rest := []) X hA2 hPm hS (c_Mdl_line l D cB cI a2 bz ha2 T ((0 : Int32)) rfl rfl) (kw_Mdl_line hts q_846 ⟨Nat.le_of_ble_eq_true rfl, Nat.le_of_ble_eq_true rfl⟩) 0 rfl rfl rfl hl.1 rfl (lv_room (Nat.le_of_ble_eq_true rfl)) d_Law_law_331 ⟨Nat.le_of_ble_eq_true rfl, Nat.le_of_ble_eq_true rfl⟩ (fun u331 H1 locs e331 hPm hS hk1 => ?_)
        have hPc := keepC hPc hdj hk1
        clear hk1
        refine lv_goto (tgt := 386) hx hb d_Law_law_334 rfl ?_
        have hR1 : RR u314 u331 := by rw [← e314, ← e331]; exact p_line hR _ (Or.inl rfl)
        exact hend _ _ _ _ hR1 hPc hPm hS
      ·
        refine lv_aload_n hx hb d_Law_law_300 rfl (lv_at hl 2 rfl) ?_
        refine lv_aload_n hx hb d_Law_law_301 rfl (lv_at hl 3 rfl) ?_
        refine lv_iload_n hx hb d_Law_law_302 rfl (lv_at hl 0 rfl) ?_
        refine lv_iconst (v := (1 : Int32)) hx hb d_Law_law_303 (by decide) ?_
        refine lv_iadd hx hb d_Law_law_304 ?_
        refine va_sld hx hb hX hbl hbA hS (inS 1 (by omega) hL) d_Law_law_305 ?_
        refine lv_if_eq (tgt := 313) hx hb d_Law_law_306 rfl (fun h => absurd h z) (fun _ => ?_)
        refine lv_iconst (v := (1 : Int32)) hx hb d_Law_law_309 (by decide) ?_
        refine lv_goto (tgt := 314) hx hb d_Law_law_310 rfl ?_
        refine lk_s (rest := []) X hA hPc hS (c_Wc_line l D cB cI a bz ha S ((1 : Int32)) rfl rfl) (kw_Wc_line hts q_537 ⟨Nat.le_of_ble_eq_true rfl, Nat.le_of_ble_eq_true rfl⟩) 0 rfl rfl rfl hl.1 rfl (lv_room (Nat.le_of_ble_eq_true rfl)) d_Law_law_314 ⟨Nat.le_of_ble_eq_true rfl, Nat.le_of_ble_eq_true rfl⟩ (fun u314 H1 locs e314 hPc hS hk1 => ?_)
        have hPm := keepT hPm hdj hk1
        clear hk1
        refine lv_aload_n hx hb d_Law_law_317 rfl (lv_at hl 1 rfl) ?_
        refine lv_aload_n hx hb d_Law_law_318 rfl (lv_at hl 3 rfl) ?_
        refine lv_iload_n hx hb d_Law_law_319 rfl (lv_at hl 0 rfl) ?_
        refine lv_iconst (v := (1 : Int32)) hx hb d_Law_law_320 (by decide) ?_
        refine lv_iadd hx hb d_Law_law_321 ?_
        refine va_sld hx hb hX hbl hbA hS (inS 1 (by omega) hL) d_Law_law_322 ?_
        refine lv_if_eq (tgt := 330) hx hb d_Law_law_323 rfl (fun h => absurd h z) (fun _ => ?_)
        refine lv_iconst (v := (1 : Int32)) hx hb d_Law_law_326 (by decide) ?_
        refine lv_goto (tgt := 331) hx hb d_Law_law_327 rfl ?_
        refine lk_s (rest := []) X hA2 hPm hS (c_Mdl_line l D cB cI a2 bz ha2 T ((1 : Int32)) rfl rfl) (kw_Mdl_line hts q_846 ⟨Nat.le_of_ble_eq_true rfl, Nat.le_of_ble_eq_true rfl⟩) 0 rfl rfl rfl hl.1 rfl (lv_room (Nat.le_of_ble_eq_true rfl)) d_Law_law_331 ⟨Nat.le_of_ble_eq_true rfl, Nat.le_of_ble_eq_true rfl⟩ (fun u331 H1 locs e331 hPm hS hk1 => ?_)
        have hPc := keepC hPc hdj hk1
        clear hk1
        refine lv_goto (tgt := 386) hx hb d_Law_law_334 rfl ?_
        have hR1 : RR u314 u331 := by rw [← e314, ← e331]; exact p_line hR _ (Or.inr rfl)
        exact hend _ _ _ _ hR1 hPc hPm hS
    by_cases g9 : sel = (9 : Int32)
    · refine sw_tL (k := (9 : Int32)) (tgt := 337) hx hb d_Law_law_32 g9 rfl ?_
      refine lv_aload_n hx hb d_Law_law_337 rfl (lv_at hl 2 rfl) ?_
      refine lk_vs (rest := []) X hA hPc hS (c_Wc_touches l D cB cI a bz ha S) (kw_Wc_touches hts q_541 ⟨Nat.le_of_ble_eq_true rfl, Nat.le_of_ble_eq_true rfl⟩) 0 rfl rfl rfl hl.1 rfl (lv_room (Nat.le_of_ble_eq_true rfl)) d_Law_law_338 ⟨Nat.le_of_ble_eq_true rfl, Nat.le_of_ble_eq_true rfl⟩ (fun r338 u338 H1 locs e338 hPc hS hk1 => ?_)
      have hPm := keepT hPm hdj hk1
      clear hk1
      refine lv_aload_n hx hb d_Law_law_341 rfl (lv_at hl 1 rfl) ?_
      refine lk_vs (rest := [.int r338]) X hA2 hPm hS (c_Mdl_touches l D cB cI a2 bz ha2 T) (kw_Mdl_touches hts q_850 ⟨Nat.le_of_ble_eq_true rfl, Nat.le_of_ble_eq_true rfl⟩) 0 rfl rfl rfl hl.1 rfl (lv_room (Nat.le_of_ble_eq_true rfl)) d_Law_law_342 ⟨Nat.le_of_ble_eq_true rfl, Nat.le_of_ble_eq_true rfl⟩ (fun r342 u342 H1 locs e342 hPm hS hk1 => ?_)
      have hPc := keepC hPc hdj hk1
      clear hk1
      obtain ⟨q1, q2⟩ := Prod.mk.inj e338
      obtain ⟨q3, q4⟩ := Prod.mk.inj e342
      refine lv_icmp_eq (tgt := 386) hx hb d_Law_law_345 rfl (fun _ => ?_) (fun h => absurd (q1.symm.trans ((RRe_9 hR).trans q3)) h)
      exact hend _ _ _ _ (by rw [← q2, ← q4]; exact hR) hPc hPm hS
    by_cases g10 : sel = (10 : Int32)
    · refine sw_tL (k := (10 : Int32)) (tgt := 350) hx hb d_Law_law_32 g10 rfl ?_
      refine lv_aload_n hx hb d_Law_law_350 rfl (lv_at hl 2 rfl) ?_
      refine lv_aload_n hx hb d_Law_law_351 rfl (lv_at hl 3 rfl) ?_
      refine lv_iload_n hx hb d_Law_law_352 rfl (lv_at hl 0 rfl) ?_
      refine lv_iconst (v := (1 : Int32)) hx hb d_Law_law_353 (by decide) ?_
      refine lv_iadd hx hb d_Law_law_354 ?_
      refine va_sld hx hb hX hbl hbA hS (inS 1 (by omega) hL) d_Law_law_355 ?_
      refine lk_vs (rest := []) X hA hPc hS (c_Wc_touched l D cB cI a bz ha S (xs (nI (4 * j) + (1 : Int32)).toNatClampNeg)) (kw_Wc_touched hts q_545 ⟨Nat.le_of_ble_eq_true rfl, Nat.le_of_ble_eq_true rfl⟩) 0 rfl rfl rfl hl.1 rfl (lv_room (Nat.le_of_ble_eq_true rfl)) d_Law_law_356 ⟨Nat.le_of_ble_eq_true rfl, Nat.le_of_ble_eq_true rfl⟩ (fun r356 u356 H1 locs e356 hPc hS hk1 => ?_)
      have hPm := keepT hPm hdj hk1
      clear hk1
      refine lv_aload_n hx hb d_Law_law_359 rfl (lv_at hl 1 rfl) ?_
      refine lv_aload_n hx hb d_Law_law_360 rfl (lv_at hl 3 rfl) ?_
      refine lv_iload_n hx hb d_Law_law_361 rfl (lv_at hl 0 rfl) ?_
      refine lv_iconst (v := (1 : Int32)) hx hb d_Law_law_362 (by decide) ?_
      refine lv_iadd hx hb d_Law_law_363 ?_
      refine va_sld hx hb hX hbl hbA hS (inS 1 (by omega) hL) d_Law_law_364 ?_
      refine lk_vs (rest := [.int r356]) X hA2 hPm hS (c_Mdl_touched l D cB cI a2 bz ha2 T (xs (nI (4 * j) + (1 : Int32)).toNatClampNeg)) (kw_Mdl_touched hts q_854 ⟨Nat.le_of_ble_eq_true rfl, Nat.le_of_ble_eq_true rfl⟩) 0 rfl rfl rfl hl.1 rfl (lv_room (Nat.le_of_ble_eq_true rfl)) d_Law_law_365 ⟨Nat.le_of_ble_eq_true rfl, Nat.le_of_ble_eq_true rfl⟩ (fun r365 u365 H1 locs e365 hPm hS hk1 => ?_)
      have hPc := keepC hPc hdj hk1
      clear hk1
      obtain ⟨q1, q2⟩ := Prod.mk.inj e356
      obtain ⟨q3, q4⟩ := Prod.mk.inj e365
      refine lv_icmp_eq (tgt := 386) hx hb d_Law_law_368 rfl (fun _ => ?_) (fun h => absurd (q1.symm.trans ((p_touched hR _).trans q3)) h)
      exact hend _ _ _ _ (by rw [← q2, ← q4]; exact hR) hPc hPm hS
    by_cases g11 : sel = (11 : Int32)
    · refine sw_tL (k := (11 : Int32)) (tgt := 373) hx hb d_Law_law_32 g11 rfl ?_
      refine lv_aload_n hx hb d_Law_law_373 rfl (lv_at hl 2 rfl) ?_
      refine lk_vs (rest := []) X hA hPc hS (c_Wc_steps l D cB cI a bz ha S) (kw_Wc_steps hts q_553 ⟨Nat.le_of_ble_eq_true rfl, Nat.le_of_ble_eq_true rfl⟩) 0 rfl rfl rfl hl.1 rfl (lv_room (Nat.le_of_ble_eq_true rfl)) d_Law_law_374 ⟨Nat.le_of_ble_eq_true rfl, Nat.le_of_ble_eq_true rfl⟩ (fun r374 u374 H1 locs e374 hPc hS hk1 => ?_)
      have hPm := keepT hPm hdj hk1
      clear hk1
      refine lv_aload_n hx hb d_Law_law_377 rfl (lv_at hl 1 rfl) ?_
      refine lk_vs (rest := [.int r374]) X hA2 hPm hS (c_Mdl_steps l D cB cI a2 bz ha2 T) (kw_Mdl_steps hts q_858 ⟨Nat.le_of_ble_eq_true rfl, Nat.le_of_ble_eq_true rfl⟩) 0 rfl rfl rfl hl.1 rfl (lv_room (Nat.le_of_ble_eq_true rfl)) d_Law_law_378 ⟨Nat.le_of_ble_eq_true rfl, Nat.le_of_ble_eq_true rfl⟩ (fun r378 u378 H1 locs e378 hPm hS hk1 => ?_)
      have hPc := keepC hPc hdj hk1
      clear hk1
      obtain ⟨q1, q2⟩ := Prod.mk.inj e374
      obtain ⟨q3, q4⟩ := Prod.mk.inj e378
      refine lv_icmp_eq (tgt := 386) hx hb d_Law_law_381 rfl (fun _ => ?_) (fun h => absurd (q1.symm.trans ((RRe_13 hR).trans q3)) h)
      exact hend _ _ _ _ (by rw [← q2, ← q4]; exact hR) hPc hPm hS
    refine lv_tableOut hx hb d_Law_law_32 (by have v0 := lv_neT (a := 0) g0 rfl; have v1 := lv_neT (a := 1) g1 rfl; have v2 := lv_neT (a := 2) g2 rfl; have v3 := lv_neT (a := 3) g3 rfl; have v4 := lv_neT (a := 4) g4 rfl; have v5 := lv_neT (a := 5) g5 rfl; have v6 := lv_neT (a := 6) g6 rfl; have v7 := lv_neT (a := 7) g7 rfl; have v8 := lv_neT (a := 8) g8 rfl; have v9 := lv_neT (a := 9) g9 rfl; have v10 := lv_neT (a := 10) g10 rfl; have v11 := lv_neT (a := 11) g11 rfl; omega) (tgt := 386) rfl ?_
    exact hend _ _ _ _ hR hPc hPm hS
