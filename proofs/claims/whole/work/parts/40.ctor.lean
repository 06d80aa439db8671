abbrev PN (D : va_G) (cB cI : ClassId) (ws : va_W) (sz : Nat) (U : State) : Prop := U.heap.size = sz ∧ va_P D classes ws U.heap ∧ va_K D classes (tysB cB cI) U ∧ va_D (fun _ => True) ws
theorem PN_blind {av : List Value} {D : va_G} {cB cI : ClassId} {ws : va_W} {sz : Nat} : FrameBlind (va_Pc av (PN D cB cI ws sz)) := fun a U g mk q => by
  obtain ⟨q0, q1, qP, qK, qD⟩ := q
  exact ⟨q0, q1, qP, va_K.moved (u := U) (U := U.calling g mk a) (Vm.Alike.refl U.vm) qK, qD⟩
theorem good_c {y : MethodName} {b : ByteArray} {n : Nat} {r : Option FieldType} (hc : Cond.code y b n r ∈ WS) : GoodIn WS (Cond.code y b n r :: WS) := by
  intro x hx
  have key : x ∈ WS := by
    rcases List.mem_cons.mp hx with rfl | h
    · exact hc
    · exact h
  exact ⟨key, good_of_word (WS_good key)⟩
abbrev QN {U : Type} (D : va_G) (post : U → Prop) (w : U → va_W) (A : Nat → Prop) : Array Value → State → Outcome → State → Prop := va_Qv (S := U) post (fun u t => va_P D classes (w u) t.heap ∧ va_D A (w u)) A
section MineN
variable {p : Program} {l : Launch} {e : Env} {R : Room} {s : State} {m : MethodId} {args : Array Value} {below : List Frame} {meth : Method} {c : Code} {H : Heap} {locs : List Loc} {cells slots : Nat} {Q : State → Prop}
variable {cc : ByteArray} {pc : Nat} {ls : Array Slot} {rest : List Value} {D : va_G} {cB cI : ClassId} {A : Nat → Prop} {H0 : Heap} {ws : va_W}
theorem nw_b (hx : p.tables.exec = Jvm.exec) (hb : c.code = cc) (harr : (Cond.arrayClass .byte).before args s = true) (hK : va_K D classes (tysB cB cI) s) (hP : va_P D classes ws H) (hD : va_D A ws) (hS : va_S A H0 H locs) (hA : ∀ q, H0.size ≤ q → A q)
    {n : Int32} (N : Nat) (hn : ¬ n < 0) (hN : n.toNatClampNeg = N) (hbytes : N * componentBytes .byte ≤ 536870912) (hcells : cells + 1 ≤ R.cells) (hslots : slots + N ≤ R.slots) (hd : decode cc pc = .ok (.newarray .byte, 2))
    (kk : ∀ (q : Nat) (H1 : Heap), va_P D classes (ws ++ [(q, .inl (cB, N, .inl (fun _ => 0)))]) H1 → va_D A (ws ++ [(q, .inl (cB, N, .inl (fun _ => 0)))]) → va_S A H0 H1 locs → W p l e R s m args below meth c H1 locs (cells + 1) (slots + N) Q (F0 m (pc + 2) ls (.ref q :: rest))) : W p l e R s m args below meth c H locs cells slots Q (F0 m pc ls (.int n :: rest)) := by
  refine va_newa (atype := .byte) (ty := .byte) (a0 := (N, .inl (fun _ => 0))) hx hb harr rfl hK hP hD hS hA (fun cA => rfl) hn hN hbytes hcells hslots hd (fun q cA H1 hK1 hP1 hD1 hS1 => ?_)
  have e1 : s.vm.findClass ("[" ++ (FieldType.byte).toString) = some cA := (hK1.2 2 _ rfl).2
  have e2 : s.vm.findClass ("[" ++ (FieldType.byte).toString) = some cB := (hK.2 0 _ rfl).2
  have e3 : cA = cB := Option.some.inj (e1.symm.trans e2)
  subst e3
  exact kk q H1 hP1 hD1 hS1
theorem nw_i (hx : p.tables.exec = Jvm.exec) (hb : c.code = cc) (harr : (Cond.arrayClass .int).before args s = true) (hK : va_K D classes (tysB cB cI) s) (hP : va_P D classes ws H) (hD : va_D A ws) (hS : va_S A H0 H locs) (hA : ∀ q, H0.size ≤ q → A q)
    {n : Int32} (N : Nat) (hn : ¬ n < 0) (hN : n.toNatClampNeg = N) (hbytes : N * componentBytes .int ≤ 536870912) (hcells : cells + 1 ≤ R.cells) (hslots : slots + N ≤ R.slots) (hd : decode cc pc = .ok (.newarray .int, 2))
    (kk : ∀ (q : Nat) (H1 : Heap), va_P D classes (ws ++ [(q, .inl (cI, N, .inl (fun _ => 0)))]) H1 → va_D A (ws ++ [(q, .inl (cI, N, .inl (fun _ => 0)))]) → va_S A H0 H1 locs → W p l e R s m args below meth c H1 locs (cells + 1) (slots + N) Q (F0 m (pc + 2) ls (.ref q :: rest))) : W p l e R s m args below meth c H locs cells slots Q (F0 m pc ls (.int n :: rest)) := by
  refine va_newa (atype := .int) (ty := .int) (a0 := (N, .inl (fun _ => 0))) hx hb harr rfl hK hP hD hS hA (fun cA => rfl) hn hN hbytes hcells hslots hd (fun q cA H1 hK1 hP1 hD1 hS1 => ?_)
  have e1 : s.vm.findClass ("[" ++ (FieldType.int).toString) = some cA := (hK1.2 2 _ rfl).2
  have e2 : s.vm.findClass ("[" ++ (FieldType.int).toString) = some cI := (hK.2 1 _ rfl).2
  have e3 : cA = cI := Option.some.inj (e1.symm.trans e2)
  subst e3
  exact kk q H1 hP1 hD1 hS1
end MineN
theorem dv_Bus : ∀ j, j < 3 → defaultValue (t_Bus j) = vp_V [.null, .null, .int 0] j := by
  intro j hj
  match j, hj with
  | 0, _ => rfl
  | 1, _ => rfl
  | 2, _ => rfl
  | j + 3, h => exact absurd h (by omega)
theorem dv_Reg : ∀ j, j < 9 → defaultValue (t_Reg j) = vp_V [.int 0, .int 0, .int 0, .int 0, .int 0, .int 0, .int 0, .int 0, .int 0] j := by
  intro j hj
  match j, hj with
  | 0, _ => rfl
  | 1, _ => rfl
  | 2, _ => rfl
  | 3, _ => rfl
  | 4, _ => rfl
  | 5, _ => rfl
  | 6, _ => rfl
  | 7, _ => rfl
  | 8, _ => rfl
  | j + 9, h => exact absurd h (by omega)
theorem dv_Prc : ∀ j, j < 8 → defaultValue (t_Prc j) = vp_V [.null, .null, .null, .null, .int 0, .int 0, .int 0, .int 0] j := by
  intro j hj
  match j, hj with
  | 0, _ => rfl
  | 1, _ => rfl
  | 2, _ => rfl
  | 3, _ => rfl
  | 4, _ => rfl
  | 5, _ => rfl
  | 6, _ => rfl
  | 7, _ => rfl
  | j + 8, h => exact absurd h (by omega)
theorem dv_Opd : ∀ j, j < 2 → defaultValue (t_Opd j) = vp_V [.null, .null] j := by
  intro j hj
  match j, hj with
  | 0, _ => rfl
  | 1, _ => rfl
  | j + 2, h => exact absurd h (by omega)
theorem dv_Stk : ∀ j, j < 2 → defaultValue (t_Stk j) = vp_V [.null, .null] j := by
  intro j hj
  match j, hj with
  | 0, _ => rfl
  | 1, _ => rfl
  | j + 2, h => exact absurd h (by omega)
theorem dv_Wc : ∀ j, j < 3 → defaultValue (t_Wc j) = vp_V [.null, .null, .null] j := by
  intro j hj
  match j, hj with
  | 0, _ => rfl
  | 1, _ => rfl
  | 2, _ => rfl
  | j + 3, h => exact absurd h (by omega)
theorem dv_Mdl : ∀ j, j < 18 → defaultValue (t_Mdl j) = vp_V [.null, .int 0, .int 0, .int 0, .int 0, .int 0, .int 0, .int 0, .int 0, .int 0, .int 0, .int 0, .int 0, .int 0, .int 0, .null, .int 0, .int 0] j := by
  intro j hj
  match j, hj with
  | 0, _ => rfl
  | 1, _ => rfl
  | 2, _ => rfl
  | 3, _ => rfl
  | 4, _ => rfl
  | 5, _ => rfl
  | 6, _ => rfl
  | 7, _ => rfl
  | 8, _ => rfl
  | 9, _ => rfl
  | 10, _ => rfl
  | 11, _ => rfl
  | 12, _ => rfl
  | 13, _ => rfl
  | 14, _ => rfl
  | 15, _ => rfl
  | 16, _ => rfl
  | 17, _ => rfl
  | j + 18, h => exact absurd h (by omega)
abbrev rm_Opd_init : Room := { frames := 1, cells := 0, slots := 0, locals := 20 }
set_option maxHeartbeats 4000000 in
set_option maxRecDepth 100000 in
theorem c_Opd_init (l : Launch) (D : va_G) (cB cI : ClassId) (h0 sz b0 b1 : Nat) : Met l y_Opd_init (Cond.code y_Opd_init b_Opd_init 3 none :: WS) rm_Opd_init (va_Pc [.ref h0, .ref b0, .ref b1] (PN D cB cI [(h0, .inr (4, [.null, .null]))] sz)) (QN D (fun _ => True) (fun _ : Unit => [(h0, .inr (4, [.ref b0, .ref b1]))]) (va_A [(h0, .inr (4, [.null, .null]))] sz)) 0 0 (va_A [(h0, .inr (4, [.null, .null]))] sz) := by
  refine Met.ofW (cc := b_Opd_init) (maxL := 3) (ret := none) (by decide) rfl ?_
  intro p e s m args below meth c s₁ B hml hv
  obtain ⟨rfl, hsz, hP, hK, hD0⟩ := hv
  have hx := B.exec
  have hb := B.bytes
  have hr := B.returns
  have hts := fun w h => atoms_spec (ws := Cond.code y_Opd_init b_Opd_init 3 none :: WS) B.pre w (List.mem_cons_of_mem _ h)
  have hown : s.vm.findClass R_Opd = some m.cls := findClass_of_methodNamed B.named
  have hlocks := B.notSynchronized
  have hin : meth.name = "<init>" := (name_of_methodNamed B.named B.method).1
  subst hsz
  have hD := hD0.self (sz := s.heap.size)
  generalize hAe : va_A [(h0, .inr (4, [.null, .null]))] s.heap.size = A at hD ⊢
  have hA : ∀ q : Nat, s.heap.size ≤ q → A q := fun q h => by rw [← hAe]; exact Or.inr h
  have hS : va_S A s.heap s.heap [] := va_S.rf
  have hP : va_P D classes [(h0, .inr (4, [.null, .null]))] s.heap := hP
  have hl := lv_entry ([.ref h0, .ref b0, .ref b1]) (n := 3) (Nat.le_of_ble_eq_true rfl)
  rw [lg_entry_eq]
  generalize (lg_sl ([.ref h0, .ref b0, .ref b1]) ++ List.replicate (3 - (lg_sl ([.ref h0, .ref b0, .ref b1])).length) Slot.unset).toArray = ls at hl ⊢
  have hl : lv_has ls 3 [(0, .ref h0), (1, .ref b0), (2, .ref b1)] := hl
  refine lv_aload_n hx hb d_Opd_init_0 rfl (lv_at hl 0 rfl) ?_
  refine W.objInit hx hb hown (hts _ q_173) (hts _ q_80) (hts _ q_81) rfl (by rw [hml]; exact hl.1) rfl d_Opd_init_1 (Nat.le_of_ble_eq_true rfl) (Nat.le_of_ble_eq_true rfl) ?_
  refine W.eq (g2 := F0 m 4 ls []) rfl ?_
  refine lv_aload_n hx hb d_Opd_init_4 rfl (lv_at hl 0 rfl) ?_
  refine lv_aload_n hx hb d_Opd_init_5 rfl (lv_at hl 1 rfl) ?_
  refine va_putF (D := D) (ci := 4) (v := .ref b0) (ty := .object "WideCore$Bus") (C := R_Opd) (T := F_Opd) (N := 2) hx hb hts in_Opd t_Opd t_Opd_ok n_Opd hown hK hP hD hS 0 rfl rfl 0 (by decide) (hts _ q_174) (fun _ h9 => h9) rfl hin rfl (by decide +kernel) rfl rfl (Nat.le_of_ble_eq_true rfl) d_Opd_init_6 (fun H locs hP hD hS => ?_)
  have hP : va_P D classes [(h0, .inr (4, [.ref b0, .null]))] H := hP
  have hD : va_D A [(h0, .inr (4, [.ref b0, .null]))] := hD
  refine lv_aload_n hx hb d_Opd_init_9 rfl (lv_at hl 0 rfl) ?_
  refine lv_aload_n hx hb d_Opd_init_10 rfl (lv_at hl 2 rfl) ?_
  refine va_putF (D := D) (ci := 4) (v := .ref b1) (ty := .object "WideCore$Registers") (C := R_Opd) (T := F_Opd) (N := 2) hx hb hts in_Opd t_Opd t_Opd_ok n_Opd hown hK hP hD hS 0 rfl rfl 1 (by decide) (hts _ q_175) (fun _ h9 => h9) rfl hin rfl (by decide +kernel) rfl rfl (Nat.le_of_ble_eq_true rfl) d_Opd_init_11 (fun H locs hP hD hS => ?_)
  have hP : va_P D classes [(h0, .inr (4, [.ref b0, .ref b1]))] H := hP
  have hD : va_D A [(h0, .inr (4, [.ref b0, .ref b1]))] := hD
  exact W.vret hx hb hr (fun t ht hW => ⟨⟨(), rfl, trivial, by rw [ht]; exact hP, hD⟩, hS.F ht⟩) hS.2.2 d_Opd_init_14 hlocks
abbrev rm_Stk_init : Room := { frames := 1, cells := 0, slots := 0, locals := 20 }
set_option maxHeartbeats 4000000 in
set_option maxRecDepth 100000 in
theorem c_Stk_init (l : Launch) (D : va_G) (cB cI : ClassId) (h0 sz b0 b1 : Nat) : Met l y_Stk_init (Cond.code y_Stk_init b_Stk_init 3 none :: WS) rm_Stk_init (va_Pc [.ref h0, .ref b0, .ref b1] (PN D cB cI [(h0, .inr (5, [.null, .null]))] sz)) (QN D (fun _ => True) (fun _ : Unit => [(h0, .inr (5, [.ref b0, .ref b1]))]) (va_A [(h0, .inr (5, [.null, .null]))] sz)) 0 0 (va_A [(h0, .inr (5, [.null, .null]))] sz) := by
  refine Met.ofW (cc := b_Stk_init) (maxL := 3) (ret := none) (by decide) rfl ?_
  intro p e s m args below meth c s₁ B hml hv
  obtain ⟨rfl, hsz, hP, hK, hD0⟩ := hv
  have hx := B.exec
  have hb := B.bytes
  have hr := B.returns
  have hts := fun w h => atoms_spec (ws := Cond.code y_Stk_init b_Stk_init 3 none :: WS) B.pre w (List.mem_cons_of_mem _ h)
  have hown : s.vm.findClass R_Stk = some m.cls := findClass_of_methodNamed B.named
  have hlocks := B.notSynchronized
  have hin : meth.name = "<init>" := (name_of_methodNamed B.named B.method).1
  subst hsz
  have hD := hD0.self (sz := s.heap.size)
  generalize hAe : va_A [(h0, .inr (5, [.null, .null]))] s.heap.size = A at hD ⊢
  have hA : ∀ q : Nat, s.heap.size ≤ q → A q := fun q h => by rw [← hAe]; exact Or.inr h
  have hS : va_S A s.heap s.heap [] := va_S.rf
  have hP : va_P D classes [(h0, .inr (5, [.null, .null]))] s.heap := hP
  have hl := lv_entry ([.ref h0, .ref b0, .ref b1]) (n := 3) (Nat.le_of_ble_eq_true rfl)
  rw [lg_entry_eq]
  generalize (lg_sl ([.ref h0, .ref b0, .ref b1]) ++ List.replicate (3 - (lg_sl ([.ref h0, .ref b0, .ref b1])).length) Slot.unset).toArray = ls at hl ⊢
  have hl : lv_has ls 3 [(0, .ref h0), (1, .ref b0), (2, .ref b1)] := hl
  refine lv_aload_n hx hb d_Stk_init_0 rfl (lv_at hl 0 rfl) ?_
  refine W.objInit hx hb hown (hts _ q_186) (hts _ q_80) (hts _ q_81) rfl (by rw [hml]; exact hl.1) rfl d_Stk_init_1 (Nat.le_of_ble_eq_true rfl) (Nat.le_of_ble_eq_true rfl) ?_
  refine W.eq (g2 := F0 m 4 ls []) rfl ?_
  refine lv_aload_n hx hb d_Stk_init_4 rfl (lv_at hl 0 rfl) ?_
  refine lv_aload_n hx hb d_Stk_init_5 rfl (lv_at hl 1 rfl) ?_
  refine va_putF (D := D) (ci := 5) (v := .ref b0) (ty := .object "WideCore$Bus") (C := R_Stk) (T := F_Stk) (N := 2) hx hb hts in_Stk t_Stk t_Stk_ok n_Stk hown hK hP hD hS 0 rfl rfl 0 (by decide) (hts _ q_187) (fun _ h9 => h9) rfl hin rfl (by decide +kernel) rfl rfl (Nat.le_of_ble_eq_true rfl) d_Stk_init_6 (fun H locs hP hD hS => ?_)
  have hP : va_P D classes [(h0, .inr (5, [.ref b0, .null]))] H := hP
  have hD : va_D A [(h0, .inr (5, [.ref b0, .null]))] := hD
  refine lv_aload_n hx hb d_Stk_init_9 rfl (lv_at hl 0 rfl) ?_
  refine lv_aload_n hx hb d_Stk_init_10 rfl (lv_at hl 2 rfl) ?_
  refine va_putF (D := D) (ci := 5) (v := .ref b1) (ty := .object "WideCore$Registers") (C := R_Stk) (T := F_Stk) (N := 2) hx hb hts in_Stk t_Stk t_Stk_ok n_Stk hown hK hP hD hS 0 rfl rfl 1 (by decide) (hts _ q_188) (fun _ h9 => h9) rfl hin rfl (by decide +kernel) rfl rfl (Nat.le_of_ble_eq_true rfl) d_Stk_init_11 (fun H locs hP hD hS => ?_)
  have hP : va_P D classes [(h0, .inr (5, [.ref b0, .ref b1]))] H := hP
  have hD : va_D A [(h0, .inr (5, [.ref b0, .ref b1]))] := hD
  exact W.vret hx hb hr (fun t ht hW => ⟨⟨(), rfl, trivial, by rw [ht]; exact hP, hD⟩, hS.F ht⟩) hS.2.2 d_Stk_init_14 hlocks
abbrev rm_Reg_init : Room := { frames := 1, cells := 0, slots := 0, locals := 20 }
set_option maxHeartbeats 4000000 in
set_option maxRecDepth 100000 in
theorem c_Reg_init (l : Launch) (D : va_G) (cB cI : ClassId) (h0 sz : Nat) : Met l y_Reg_init (Cond.code y_Reg_init b_Reg_init 1 none :: WS) rm_Reg_init (va_Pc [.ref h0] (PN D cB cI [(h0, .inr (2, [.int 0, .int 0, .int 0, .int 0, .int 0, .int 0, .int 0, .int 0, .int 0]))] sz)) (QN D (fun _ => True) (fun _ : Unit => [(h0, .inr (2, [.int 0, .int 0, .int 0, .int 255, .int 0, .int 0, .int 0, .int 0, .int 52]))]) (va_A [(h0, .inr (2, [.int 0, .int 0, .int 0, .int 0, .int 0, .int 0, .int 0, .int 0, .int 0]))] sz)) 0 0 (va_A [(h0, .inr (2, [.int 0, .int 0, .int 0, .int 0, .int 0, .int 0, .int 0, .int 0, .int 0]))] sz) := by
  refine Met.ofW (cc := b_Reg_init) (maxL := 1) (ret := none) (by decide) rfl ?_
  intro p e s m args below meth c s₁ B hml hv
  obtain ⟨rfl, hsz, hP, hK, hD0⟩ := hv
  have hx := B.exec
  have hb := B.bytes
  have hr := B.returns
  have hts := fun w h => atoms_spec (ws := Cond.code y_Reg_init b_Reg_init 1 none :: WS) B.pre w (List.mem_cons_of_mem _ h)
  have hown : s.vm.findClass R_Reg = some m.cls := findClass_of_methodNamed B.named
  have hlocks := B.notSynchronized
  have hin : meth.name = "<init>" := (name_of_methodNamed B.named B.method).1
  subst hsz
  have hD := hD0.self (sz := s.heap.size)
  generalize hAe : va_A [(h0, .inr (2, [.int 0, .int 0, .int 0, .int 0, .int 0, .int 0, .int 0, .int 0, .int 0]))] s.heap.size = A at hD ⊢
  have hA : ∀ q : Nat, s.heap.size ≤ q → A q := fun q h => by rw [← hAe]; exact Or.inr h
  have hS : va_S A s.heap s.heap [] := va_S.rf
  have hP : va_P D classes [(h0, .inr (2, [.int 0, .int 0, .int 0, .int 0, .int 0, .int 0, .int 0, .int 0, .int 0]))] s.heap := hP
  have hl := lv_entry ([.ref h0]) (n := 1) (Nat.le_of_ble_eq_true rfl)
  rw [lg_entry_eq]
  generalize (lg_sl ([.ref h0]) ++ List.replicate (1 - (lg_sl ([.ref h0])).length) Slot.unset).toArray = ls at hl ⊢
  have hl : lv_has ls 1 [(0, .ref h0)] := hl
  refine lv_aload_n hx hb d_Reg_init_0 rfl (lv_at hl 0 rfl) ?_
  refine W.objInit hx hb hown (hts _ q_107) (hts _ q_80) (hts _ q_81) rfl (by rw [hml]; exact hl.1) rfl d_Reg_init_1 (Nat.le_of_ble_eq_true rfl) (Nat.le_of_ble_eq_true rfl) ?_
  refine W.eq (g2 := F0 m 4 ls []) rfl ?_
  refine lv_aload_n hx hb d_Reg_init_4 rfl (lv_at hl 0 rfl) ?_
  refine lv_sipush (v := (255 : Int32)) hx hb d_Reg_init_5 (by decide) ?_
  refine va_put (D := D) (ci := 2) (v := .int (255 : Int32)) (ty := .int) (C := R_Reg) (T := F_Reg) (N := 9) hx hb hts in_Reg t_Reg t_Reg_ok n_Reg hown hK hP hD hS 0 rfl rfl 3 (by decide) (hts _ q_119) (fun _ h9 => h9) rfl (by decide +kernel) rfl rfl (Nat.le_of_ble_eq_true rfl) d_Reg_init_8 (fun H locs hP hD hS => ?_)
  have hP : va_P D classes [(h0, .inr (2, [.int 0, .int 0, .int 0, .int 255, .int 0, .int 0, .int 0, .int 0, .int 0]))] H := hP
  have hD : va_D A [(h0, .inr (2, [.int 0, .int 0, .int 0, .int 255, .int 0, .int 0, .int 0, .int 0, .int 0]))] := hD
  refine lv_aload_n hx hb d_Reg_init_11 rfl (lv_at hl 0 rfl) ?_
  refine lv_bipush (v := (52 : Int32)) hx hb d_Reg_init_12 (by decide) ?_
  refine va_put (D := D) (ci := 2) (v := .int (52 : Int32)) (ty := .int) (C := R_Reg) (T := F_Reg) (N := 9) hx hb hts in_Reg t_Reg t_Reg_ok n_Reg hown hK hP hD hS 0 rfl rfl 8 (by decide) (hts _ q_140) (fun _ h9 => h9) rfl (by decide +kernel) rfl rfl (Nat.le_of_ble_eq_true rfl) d_Reg_init_14 (fun H locs hP hD hS => ?_)
  have hP : va_P D classes [(h0, .inr (2, [.int 0, .int 0, .int 0, .int 255, .int 0, .int 0, .int 0, .int 0, .int 52]))] H := hP
  have hD : va_D A [(h0, .inr (2, [.int 0, .int 0, .int 0, .int 255, .int 0, .int 0, .int 0, .int 0, .int 52]))] := hD
  exact W.vret hx hb hr (fun t ht hW => ⟨⟨(), rfl, trivial, by rw [ht]; exact hP, hD⟩, hS.F ht⟩) hS.2.2 d_Reg_init_17 hlocks
abbrev rm_Bus_init : Room := { frames := 1, cells := 2, slots := 1032, locals := 20 }
set_option maxHeartbeats 4000000 in
set_option maxRecDepth 100000 in
theorem c_Bus_init (l : Launch) (D : va_G) (cB cI : ClassId) (h0 sz : Nat) : Met l y_Bus_init (Cond.code y_Bus_init b_Bus_init 1 none :: WS) rm_Bus_init (va_Pc [.ref h0] (PN D cB cI [(h0, .inr (1, [.null, .null, .int 0]))] sz)) (QN D (fun _ => True) (fun u : Nat × Nat => [(h0, .inr (1, [.ref u.1, .ref u.2, .int 0])), (u.1, .inl (cB, 1024, .inl (fun _ => 0))), (u.2, .inl (cI, 8, .inl (fun _ => 0)))]) (va_A [(h0, .inr (1, [.null, .null, .int 0]))] sz)) 2 1032 (va_A [(h0, .inr (1, [.null, .null, .int 0]))] sz) := by
  refine Met.ofW (cc := b_Bus_init) (maxL := 1) (ret := none) (by decide) rfl ?_
  intro p e s m args below meth c s₁ B hml hv
  obtain ⟨rfl, hsz, hP, hK, hD0⟩ := hv
  have hx := B.exec
  have hb := B.bytes
  have hr := B.returns
  have hts := fun w h => atoms_spec (ws := Cond.code y_Bus_init b_Bus_init 1 none :: WS) B.pre w (List.mem_cons_of_mem _ h)
  have hown : s.vm.findClass R_Bus = some m.cls := findClass_of_methodNamed B.named
  have hlocks := B.notSynchronized
  have hin : meth.name = "<init>" := (name_of_methodNamed B.named B.method).1
  subst hsz
  have hD := hD0.self (sz := s.heap.size)
  generalize hAe : va_A [(h0, .inr (1, [.null, .null, .int 0]))] s.heap.size = A at hD ⊢
  have hA : ∀ q : Nat, s.heap.size ≤ q → A q := fun q h => by rw [← hAe]; exact Or.inr h
  have hS : va_S A s.heap s.heap [] := va_S.rf
  have hP : va_P D classes [(h0, .inr (1, [.null, .null, .int 0]))] s.heap := hP
  have hl := lv_entry ([.ref h0]) (n := 1) (Nat.le_of_ble_eq_true rfl)
  rw [lg_entry_eq]
  generalize (lg_sl ([.ref h0]) ++ List.replicate (1 - (lg_sl ([.ref h0])).length) Slot.unset).toArray = ls at hl ⊢
  have hl : lv_has ls 1 [(0, .ref h0)] := hl
  refine lv_aload_n hx hb d_Bus_init_0 rfl (lv_at hl 0 rfl) ?_
  refine W.objInit hx hb hown (hts _ q_87) (hts _ q_80) (hts _ q_81) rfl (by rw [hml]; exact hl.1) rfl d_Bus_init_1 (Nat.le_of_ble_eq_true rfl) (Nat.le_of_ble_eq_true rfl) ?_
  refine W.eq (g2 := F0 m 4 ls []) rfl ?_
  refine lv_aload_n hx hb d_Bus_init_4 rfl (lv_at hl 0 rfl) ?_
  refine lv_sipush (v := (1024 : Int32)) hx hb d_Bus_init_5 (by decide) ?_
  refine nw_b hx hb (hts _ q_100) hK hP hD hS hA 1024 (by decide) (by decide) (by decide) (Nat.le_of_ble_eq_true rfl) (Nat.le_of_ble_eq_true rfl) d_Bus_init_8 (fun q8 H hP hD hS => ?_)
  have hP : va_P D classes [(h0, .inr (1, [.null, .null, .int 0])), (q8, .inl (cB, 1024, .inl (fun _ => 0)))] H := hP
  have hD : va_D A [(h0, .inr (1, [.null, .null, .int 0])), (q8, .inl (cB, 1024, .inl (fun _ => 0)))] := hD
  refine va_putF (D := D) (ci := 1) (v := .ref q8) (ty := .array .byte) (C := R_Bus) (T := F_Bus) (N := 3) hx hb hts in_Bus t_Bus t_Bus_ok n_Bus hown hK hP hD hS 0 rfl rfl 0 (by decide) (hts _ q_88) (fun _ h9 => h9) rfl hin rfl (by decide +kernel) rfl rfl (Nat.le_of_ble_eq_true rfl) d_Bus_init_10 (fun H locs hP hD hS => ?_)
  have hP : va_P D classes [(h0, .inr (1, [.ref q8, .null, .int 0])), (q8, .inl (cB, 1024, .inl (fun _ => 0)))] H := hP
  have hD : va_D A [(h0, .inr (1, [.ref q8, .null, .int 0])), (q8, .inl (cB, 1024, .inl (fun _ => 0)))] := hD
  refine lv_aload_n hx hb d_Bus_init_13 rfl (lv_at hl 0 rfl) ?_
  refine lv_bipush (v := (8 : Int32)) hx hb d_Bus_init_14 (by decide) ?_
  refine nw_i hx hb (hts _ q_101) hK hP hD hS hA 8 (by decide) (by decide) (by decide) (Nat.le_of_ble_eq_true rfl) (Nat.le_of_ble_eq_true rfl) d_Bus_init_16 (fun q16 H hP hD hS => ?_)
  have hP : va_P D classes [(h0, .inr (1, [.ref q8, .null, .int 0])), (q8, .inl (cB, 1024, .inl (fun _ => 0))), (q16, .inl (cI, 8, .inl (fun _ => 0)))] H := hP
  have hD : va_D A [(h0, .inr (1, [.ref q8, .null, .int 0])), (q8, .inl (cB, 1024, .inl (fun _ => 0))), (q16, .inl (cI, 8, .inl (fun _ => 0)))] := hD
  refine va_putF (D := D) (ci := 1) (v := .ref q16) (ty := .array .int) (C := R_Bus) (T := F_Bus) (N := 3) hx hb hts in_Bus t_Bus t_Bus_ok n_Bus hown hK hP hD hS 0 rfl rfl 1 (by decide) (hts _ q_90) (fun _ h9 => h9) rfl hin rfl (by decide +kernel) rfl rfl (Nat.le_of_ble_eq_true rfl) d_Bus_init_18 (fun H locs hP hD hS => ?_)
  have hP : va_P D classes [(h0, .inr (1, [.ref q8, .ref q16, .int 0])), (q8, .inl (cB, 1024, .inl (fun _ => 0))), (q16, .inl (cI, 8, .inl (fun _ => 0)))] H := hP
  have hD : va_D A [(h0, .inr (1, [.ref q8, .ref q16, .int 0])), (q8, .inl (cB, 1024, .inl (fun _ => 0))), (q16, .inl (cI, 8, .inl (fun _ => 0)))] := hD
  exact W.vret hx hb hr (fun t ht hW => ⟨⟨(q8, q16), rfl, trivial, by rw [ht]; exact hP, hD⟩, hS.F ht⟩) hS.2.2 d_Bus_init_21 hlocks
abbrev rm_Prc_init : Room := { frames := 2, cells := 2, slots := 4, locals := 42 }
set_option maxHeartbeats 4000000 in
set_option maxRecDepth 100000 in
theorem c_Prc_init (l : Launch) (D : va_G) (cB cI : ClassId) (h0 sz b0 b1 : Nat) : Met l y_Prc_init (Cond.code y_Prc_init b_Prc_init 3 none :: WS) rm_Prc_init (va_Pc [.ref h0, .ref b0, .ref b1] (PN D cB cI [(h0, .inr (3, [.null, .null, .null, .null, .int 0, .int 0, .int 0, .int 0]))] sz)) (QN D (fun _ => True) (fun u : Nat × Nat => [(h0, .inr (3, [.ref b0, .ref b1, .ref u.1, .ref u.2, .int 0, .int 0, .int 0, .int 0])), (u.1, .inr (4, [.ref b0, .ref b1])), (u.2, .inr (5, [.ref b0, .ref b1]))]) (va_A [(h0, .inr (3, [.null, .null, .null, .null, .int 0, .int 0, .int 0, .int 0]))] sz)) 2 4 (va_A [(h0, .inr (3, [.null, .null, .null, .null, .int 0, .int 0, .int 0, .int 0]))] sz) := by
  refine Met.ofW (cc := b_Prc_init) (maxL := 3) (ret := none) (by decide) rfl ?_
  intro p e s m args below meth c s₁ B hml hv
  obtain ⟨rfl, hsz, hP, hK, hD0⟩ := hv
  have hx := B.exec
  have hb := B.bytes
  have hr := B.returns
  have hts := fun w h => atoms_spec (ws := Cond.code y_Prc_init b_Prc_init 3 none :: WS) B.pre w (List.mem_cons_of_mem _ h)
  have hown : s.vm.findClass R_Prc = some m.cls := findClass_of_methodNamed B.named
  have hlocks := B.notSynchronized
  have hin : meth.name = "<init>" := (name_of_methodNamed B.named B.method).1
  subst hsz
  have hD := hD0.self (sz := s.heap.size)
  generalize hAe : va_A [(h0, .inr (3, [.null, .null, .null, .null, .int 0, .int 0, .int 0, .int 0]))] s.heap.size = A at hD ⊢
  have hA : ∀ q : Nat, s.heap.size ≤ q → A q := fun q h => by rw [← hAe]; exact Or.inr h
  have hS : va_S A s.heap s.heap [] := va_S.rf
  have hP : va_P D classes [(h0, .inr (3, [.null, .null, .null, .null, .int 0, .int 0, .int 0, .int 0]))] s.heap := hP
  have hl := lv_entry ([.ref h0, .ref b0, .ref b1]) (n := 3) (Nat.le_of_ble_eq_true rfl)
  rw [lg_entry_eq]
  generalize (lg_sl ([.ref h0, .ref b0, .ref b1]) ++ List.replicate (3 - (lg_sl ([.ref h0, .ref b0, .ref b1])).length) Slot.unset).toArray = ls at hl ⊢
  have hl : lv_has ls 3 [(0, .ref h0), (1, .ref b0), (2, .ref b1)] := hl
  refine lv_aload_n hx hb d_Prc_init_0 rfl (lv_at hl 0 rfl) ?_
  refine W.objInit hx hb hown (hts _ q_167) (hts _ q_80) (hts _ q_81) rfl (by rw [hml]; exact hl.1) rfl d_Prc_init_1 (Nat.le_of_ble_eq_true rfl) (Nat.le_of_ble_eq_true rfl) ?_
  refine W.eq (g2 := F0 m 4 ls []) rfl ?_
  refine lv_aload_n hx hb d_Prc_init_4 rfl (lv_at hl 0 rfl) ?_
  refine lv_aload_n hx hb d_Prc_init_5 rfl (lv_at hl 1 rfl) ?_
  refine va_putF (D := D) (ci := 3) (v := .ref b0) (ty := .object "WideCore$Bus") (C := R_Prc) (T := F_Prc) (N := 8) hx hb hts in_Prc t_Prc t_Prc_ok n_Prc hown hK hP hD hS 0 rfl rfl 0 (by decide) (hts _ q_194) (fun _ h9 => h9) rfl hin rfl (by decide +kernel) rfl rfl (Nat.le_of_ble_eq_true rfl) d_Prc_init_6 (fun H locs hP hD hS => ?_)
  have hP : va_P D classes [(h0, .inr (3, [.ref b0, .null, .null, .null, .int 0, .int 0, .int 0, .int 0]))] H := hP
  have hD : va_D A [(h0, .inr (3, [.ref b0, .null, .null, .null, .int 0, .int 0, .int 0, .int 0]))] := hD
  refine lv_aload_n hx hb d_Prc_init_9 rfl (lv_at hl 0 rfl) ?_
  refine lv_aload_n hx hb d_Prc_init_10 rfl (lv_at hl 2 rfl) ?_
  refine va_putF (D := D) (ci := 3) (v := .ref b1) (ty := .object "WideCore$Registers") (C := R_Prc) (T := F_Prc) (N := 8) hx hb hts in_Prc t_Prc t_Prc_ok n_Prc hown hK hP hD hS 0 rfl rfl 1 (by decide) (hts _ q_195) (fun _ h9 => h9) rfl hin rfl (by decide +kernel) rfl rfl (Nat.le_of_ble_eq_true rfl) d_Prc_init_11 (fun H locs hP hD hS => ?_)
  have hP : va_P D classes [(h0, .inr (3, [.ref b0, .ref b1, .null, .null, .int 0, .int 0, .int 0, .int 0]))] H := hP
  have hD : va_D A [(h0, .inr (3, [.ref b0, .ref b1, .null, .null, .int 0, .int 0, .int 0, .int 0]))] := hD
  refine lv_aload_n hx hb d_Prc_init_14 rfl (lv_at hl 0 rfl) ?_
  refine va_new (ci := 4) (fs := [.null, .null]) (C := R_Opd) (T := F_Opd) (N := 2) hx hb hts in_Opd t_Opd t_Opd_ok hown (hts _ q_168) (hts _ q_169) (hts _ q_71) hK hP hD hS hA rfl dv_Opd (Nat.le_of_ble_eq_true rfl) (Nat.le_of_ble_eq_true rfl) d_Prc_init_15 (fun q15 H hP hD hS => ?_)
  have hP : va_P D classes [(h0, .inr (3, [.ref b0, .ref b1, .null, .null, .int 0, .int 0, .int 0, .int 0])), (q15, .inr (4, [.null, .null]))] H := hP
  have hD : va_D A [(h0, .inr (3, [.ref b0, .ref b1, .null, .null, .int 0, .int 0, .int 0, .int 0])), (q15, .inr (4, [.null, .null]))] := hD
  refine lv_dup hx hb d_Prc_init_18 rfl ?_
  refine lv_aload_n hx hb d_Prc_init_19 rfl (lv_at hl 1 rfl) ?_
  refine lv_aload_n hx hb d_Prc_init_20 rfl (lv_at hl 2 rfl) ?_
  have hPc := hP.sub (ws' := [(q15, .inr (4, [.null, .null]))]) [1] rfl
  have hDc := hD.sub (ws' := [(q15, .inr (4, [.null, .null]))]) [1] (by decide) rfl
  have hFc := va_free (wc := [(q15, .inr (4, [.null, .null]))]) hD hS hA [1] rfl
  refine va_callv (va_runI (As := [.ref b0, .ref b1]) (rest := [.ref q15, .ref h0]) ⟨hx, hb, hml, hown, hts⟩ (c_Opd_init l D cB cI q15 H.size b0 b1) (cwI 2 hts (good_c q_172) rfl rfl rfl (hts _ q_71) (hts _ q_170) (hts _ q_171) rfl ⟨by decide +kernel, by decide +kernel, by decide +kernel⟩ ⟨Nat.le_of_ble_eq_true rfl, Nat.le_of_ble_eq_true rfl⟩) ⟨PN_blind, fun U hU hW => ⟨rfl, by rw [hU], by rw [hU]; exact hPc, va_K.moved hW.alike hK, hDc.weaken (fun _ _ _ _ => trivial)⟩⟩ rfl rfl hl.1 rfl (lv_room (Nat.le_of_ble_eq_true rfl)) d_Prc_init_21 ⟨Nat.le_of_ble_eq_true rfl, Nat.le_of_ble_eq_true rfl⟩) hS (fun q _ h => hFc q h) hFc (fun u t H1 locs ht hvm _ hB hz1 hk1 hS => ?_)
  obtain ⟨hP1, hD1⟩ := hB
  rw [ht] at hP1
  obtain ⟨hP, hD⟩ := va_join (wr := [(h0, .inr (3, [.ref b0, .ref b1, .null, .null, .int 0, .int 0, .int 0, .int 0]))]) (w1 := [(q15, .inr (4, [.ref b0, .ref b1]))]) hP hD [1] [0] rfl rfl (by decide) (by decide) hk1 hFc hP1 hD1
  generalize H1 = H at hP hS ⊢
  have hP : va_P D classes [(h0, .inr (3, [.ref b0, .ref b1, .null, .null, .int 0, .int 0, .int 0, .int 0])), (q15, .inr (4, [.ref b0, .ref b1]))] H := hP
  have hD : va_D A [(h0, .inr (3, [.ref b0, .ref b1, .null, .null, .int 0, .int 0, .int 0, .int 0])), (q15, .inr (4, [.ref b0, .ref b1]))] := hD
  refine va_putF (D := D) (ci := 3) (v := .ref q15) (ty := .object "WideCore$Operands") (C := R_Prc) (T := F_Prc) (N := 8) hx hb hts in_Prc t_Prc t_Prc_ok n_Prc hown hK hP hD hS 0 rfl rfl 2 (by decide) (hts _ q_196) (fun _ h9 => h9) rfl hin rfl (by decide +kernel) rfl rfl (Nat.le_of_ble_eq_true rfl) d_Prc_init_24 (fun H locs hP hD hS => ?_)
  have hP : va_P D classes [(h0, .inr (3, [.ref b0, .ref b1, .ref q15, .null, .int 0, .int 0, .int 0, .int 0])), (q15, .inr (4, [.ref b0, .ref b1]))] H := hP
  have hD : va_D A [(h0, .inr (3, [.ref b0, .ref b1, .ref q15, .null, .int 0, .int 0, .int 0, .int 0])), (q15, .inr (4, [.ref b0, .ref b1]))] := hD
  refine lv_aload_n hx hb d_Prc_init_27 rfl (lv_at hl 0 rfl) ?_
  refine va_new (ci := 5) (fs := [.null, .null]) (C := R_Stk) (T := F_Stk) (N := 2) hx hb hts in_Stk t_Stk t_Stk_ok hown (hts _ q_181) (hts _ q_182) (hts _ q_72) hK hP hD hS hA rfl dv_Stk (Nat.le_of_ble_eq_true rfl) (Nat.le_of_ble_eq_true rfl) d_Prc_init_28 (fun q28 H hP hD hS => ?_)
  have hP : va_P D classes [(h0, .inr (3, [.ref b0, .ref b1, .ref q15, .null, .int 0, .int 0, .int 0, .int 0])), (q15, .inr (4, [.ref b0, .ref b1])), (q28, .inr (5, [.null, .null]))] H := hP
  have hD : va_D A [(h0, .inr (3, [.ref b0, .ref b1, .ref q15, .null, .int 0, .int 0, .int 0, .int 0])), (q15, .inr (4, [.ref b0, .ref b1])), (q28, .inr (5, [.null, .null]))] := hD
  refine lv_dup hx hb d_Prc_init_31 rfl ?_
  refine lv_aload_n hx hb d_Prc_init_32 rfl (lv_at hl 1 rfl) ?_
  refine lv_aload_n hx hb d_Prc_init_33 rfl (lv_at hl 2 rfl) ?_
  have hPc := hP.sub (ws' := [(q28, .inr (5, [.null, .null]))]) [2] rfl
  have hDc := hD.sub (ws' := [(q28, .inr (5, [.null, .null]))]) [2] (by decide) rfl
  have hFc := va_free (wc := [(q28, .inr (5, [.null, .null]))]) hD hS hA [2] rfl
  refine va_callv (va_runI (As := [.ref b0, .ref b1]) (rest := [.ref q28, .ref h0]) ⟨hx, hb, hml, hown, hts⟩ (c_Stk_init l D cB cI q28 H.size b0 b1) (cwI 2 hts (good_c q_185) rfl rfl rfl (hts _ q_72) (hts _ q_183) (hts _ q_184) rfl ⟨by decide +kernel, by decide +kernel, by decide +kernel⟩ ⟨Nat.le_of_ble_eq_true rfl, Nat.le_of_ble_eq_true rfl⟩) ⟨PN_blind, fun U hU hW => ⟨rfl, by rw [hU], by rw [hU]; exact hPc, va_K.moved hW.alike hK, hDc.weaken (fun _ _ _ _ => trivial)⟩⟩ rfl rfl hl.1 rfl (lv_room (Nat.le_of_ble_eq_true rfl)) d_Prc_init_34 ⟨Nat.le_of_ble_eq_true rfl, Nat.le_of_ble_eq_true rfl⟩) hS (fun q _ h => hFc q h) hFc (fun u t H1 locs ht hvm _ hB hz1 hk1 hS => ?_)
  obtain ⟨hP1, hD1⟩ := hB
  rw [ht] at hP1
  obtain ⟨hP, hD⟩ := va_join (wr := [(h0, .inr (3, [.ref b0, .ref b1, .ref q15, .null, .int 0, .int 0, .int 0, .int 0])), (q15, .inr (4, [.ref b0, .ref b1]))]) (w1 := [(q28, .inr (5, [.ref b0, .ref b1]))]) hP hD [2] [0, 1] rfl rfl (by decide) (by decide) hk1 hFc hP1 hD1
  generalize H1 = H at hP hS ⊢
  have hP : va_P D classes [(h0, .inr (3, [.ref b0, .ref b1, .ref q15, .null, .int 0, .int 0, .int 0, .int 0])), (q15, .inr (4, [.ref b0, .ref b1])), (q28, .inr (5, [.ref b0, .ref b1]))] H := hP
  have hD : va_D A [(h0, .inr (3, [.ref b0, .ref b1, .ref q15, .null, .int 0, .int 0, .int 0, .int 0])), (q15, .inr (4, [.ref b0, .ref b1])), (q28, .inr (5, [.ref b0, .ref b1]))] := hD
  refine va_putF (D := D) (ci := 3) (v := .ref q28) (ty := .object "WideCore$Stack") (C := R_Prc) (T := F_Prc) (N := 8) hx hb hts in_Prc t_Prc t_Prc_ok n_Prc hown hK hP hD hS 0 rfl rfl 3 (by decide) (hts _ q_197) (fun _ h9 => h9) rfl hin rfl (by decide +kernel) rfl rfl (Nat.le_of_ble_eq_true rfl) d_Prc_init_37 (fun H locs hP hD hS => ?_)
  have hP : va_P D classes [(h0, .inr (3, [.ref b0, .ref b1, .ref q15, .ref q28, .int 0, .int 0, .int 0, .int 0])), (q15, .inr (4, [.ref b0, .ref b1])), (q28, .inr (5, [.ref b0, .ref b1]))] H := hP
  have hD : va_D A [(h0, .inr (3, [.ref b0, .ref b1, .ref q15, .ref q28, .int 0, .int 0, .int 0, .int 0])), (q15, .inr (4, [.ref b0, .ref b1])), (q28, .inr (5, [.ref b0, .ref b1]))] := hD
  exact W.vret hx hb hr (fun t ht hW => ⟨⟨(q15, q28), rfl, trivial, by rw [ht]; exact hP, hD⟩, hS.F ht⟩) hS.2.2 d_Prc_init_40 hlocks
def adr (b0 b1 b2 b3 b4 b5 b6 b7 : Nat) : Nat → Nat := fun k => match k with
  | 0 => b0
  | 1 => b1
  | 2 => b2
  | 3 => b3
  | 4 => b4
  | 5 => b5
  | 6 => b6
  | _ => b7
def S0 : Sc := (fun k => match k with | 3 => 255 | 8 => 52 | _ => 0, fun _ => 0, fun _ => 0)
abbrev rm_Wc_init : Room := { frames := 3, cells := 7, slots := 1056, locals := 64 }
set_option maxHeartbeats 4000000 in
set_option maxRecDepth 100000 in
theorem c_Wc_init (l : Launch) (D : va_G) (cB cI : ClassId) (h0 sz : Nat) : Met l y_Wc_init (Cond.code y_Wc_init b_Wc_init 1 none :: WS) rm_Wc_init (va_Pc [.ref h0] (fun U => (PN D cB cI [(h0, .inr (0, [.null, .null, .null]))] sz) U ∧ va_Nw (.methodLinkNest R_Wc 9 y_Bus_init "WideCore") U ∧ va_Nw (.methodLinkNest R_Wc 18 y_Reg_init "WideCore") U)) (QN D (fun a => a 0 = h0) (fun a : Nat → Nat => wdC cB cI a S0) (va_A [(h0, .inr (0, [.null, .null, .null]))] sz)) 7 1056 (va_A [(h0, .inr (0, [.null, .null, .null]))] sz) := by
  refine Met.ofW (cc := b_Wc_init) (maxL := 1) (ret := none) (by decide) rfl ?_
  intro p e s m args below meth c s₁ B hml hv
  obtain ⟨rfl, ⟨hsz, hP, hK, hD0⟩, hN1, hN2⟩ := hv
  have hx := B.exec
  have hb := B.bytes
  have hr := B.returns
  have hts := fun w h => atoms_spec (ws := Cond.code y_Wc_init b_Wc_init 1 none :: WS) B.pre w (List.mem_cons_of_mem _ h)
  have hown : s.vm.findClass R_Wc = some m.cls := findClass_of_methodNamed B.named
  have hlocks := B.notSynchronized
  have hin : meth.name = "<init>" := (name_of_methodNamed B.named B.method).1
  subst hsz
  have hD := hD0.self (sz := s.heap.size)
  generalize hAe : va_A [(h0, .inr (0, [.null, .null, .null]))] s.heap.size = A at hD ⊢
  have hA : ∀ q : Nat, s.heap.size ≤ q → A q := fun q h => by rw [← hAe]; exact Or.inr h
  have hS : va_S A s.heap s.heap [] := va_S.rf
  have hP : va_P D classes [(h0, .inr (0, [.null, .null, .null]))] s.heap := hP
  have hl := lv_entry ([.ref h0]) (n := 1) (Nat.le_of_ble_eq_true rfl)
  rw [lg_entry_eq]
  generalize (lg_sl ([.ref h0]) ++ List.replicate (1 - (lg_sl ([.ref h0])).length) Slot.unset).toArray = ls at hl ⊢
  have hl : lv_has ls 1 [(0, .ref h0)] := hl
  refine lv_aload_n hx hb d_Wc_init_0 rfl (lv_at hl 0 rfl) ?_
  refine W.objInit hx hb hown (hts _ q_79) (hts _ q_80) (hts _ q_81) rfl (by rw [hml]; exact hl.1) rfl d_Wc_init_1 (Nat.le_of_ble_eq_true rfl) (Nat.le_of_ble_eq_true rfl) ?_
  refine W.eq (g2 := F0 m 4 ls []) rfl ?_
  refine lv_aload_n hx hb d_Wc_init_4 rfl (lv_at hl 0 rfl) ?_
  refine va_new (ci := 1) (fs := [.null, .null, .int 0]) (C := R_Bus) (T := F_Bus) (N := 3) hx hb hts in_Bus t_Bus t_Bus_ok hown (hts _ q_82) (hts _ q_83) (hts _ q_68) hK hP hD hS hA rfl dv_Bus (Nat.le_of_ble_eq_true rfl) (Nat.le_of_ble_eq_true rfl) d_Wc_init_5 (fun q5 H hP hD hS => ?_)
  have hP : va_P D classes [(h0, .inr (0, [.null, .null, .null])), (q5, .inr (1, [.null, .null, .int 0]))] H := hP
  have hD : va_D A [(h0, .inr (0, [.null, .null, .null])), (q5, .inr (1, [.null, .null, .int 0]))] := hD
  refine lv_dup hx hb d_Wc_init_8 rfl ?_
  have hPc := hP.sub (ws' := [(q5, .inr (1, [.null, .null, .int 0]))]) [1] rfl
  have hDc := hD.sub (ws' := [(q5, .inr (1, [.null, .null, .int 0]))]) [1] (by decide) rfl
  have hFc := va_free (wc := [(q5, .inr (1, [.null, .null, .int 0]))]) hD hS hA [1] rfl
  refine va_callv (va_runIN (As := []) (rest := [.ref q5, .ref h0]) ⟨hx, hb, hml, hown, hts⟩ (c_Bus_init l D cB cI q5 H.size) ⟨va_cnB 0 hts (good_c q_86) rfl rfl rfl hN1 (hts _ q_68) ⟨by decide +kernel, by decide +kernel, by decide +kernel⟩ ⟨Nat.le_of_ble_eq_true rfl, Nat.le_of_ble_eq_true rfl⟩, rfl, hts _ q_85⟩ ⟨PN_blind, fun U hU hW => ⟨rfl, by rw [hU], by rw [hU]; exact hPc, va_K.moved hW.alike hK, hDc.weaken (fun _ _ _ _ => trivial)⟩⟩ rfl rfl hl.1 rfl (lv_room (Nat.le_of_ble_eq_true rfl)) d_Wc_init_9 ⟨Nat.le_of_ble_eq_true rfl, Nat.le_of_ble_eq_true rfl⟩) hS (fun q _ h => hFc q h) hFc (fun u t H1 locs ht hvm _ hB hz1 hk1 hS => ?_)
  obtain ⟨u9, v9⟩ := u
  obtain ⟨hP1, hD1⟩ := hB
  rw [ht] at hP1
  obtain ⟨hP, hD⟩ := va_join (wr := [(h0, .inr (0, [.null, .null, .null]))]) (w1 := [(q5, .inr (1, [.ref u9, .ref v9, .int 0])), (u9, .inl (cB, 1024, .inl (fun _ => 0))), (v9, .inl (cI, 8, .inl (fun _ => 0)))]) hP hD [1] [0] rfl rfl (by decide) (by decide) hk1 hFc hP1 hD1
  generalize H1 = H at hP hS ⊢
  have hP : va_P D classes [(h0, .inr (0, [.null, .null, .null])), (q5, .inr (1, [.ref u9, .ref v9, .int 0])), (u9, .inl (cB, 1024, .inl (fun _ => 0))), (v9, .inl (cI, 8, .inl (fun _ => 0)))] H := hP
  have hD : va_D A [(h0, .inr (0, [.null, .null, .null])), (q5, .inr (1, [.ref u9, .ref v9, .int 0])), (u9, .inl (cB, 1024, .inl (fun _ => 0))), (v9, .inl (cI, 8, .inl (fun _ => 0)))] := hD
  refine va_putF (D := D) (ci := 0) (v := .ref q5) (ty := .object "WideCore$Bus") (C := R_Wc) (T := F_Wc) (N := 3) hx hb hts in_Wc t_Wc t_Wc_ok n_Wc hown hK hP hD hS 0 rfl rfl 0 (by decide) (hts _ q_223) (fun _ h9 => h9) rfl hin rfl (by decide +kernel) rfl rfl (Nat.le_of_ble_eq_true rfl) d_Wc_init_12 (fun H locs hP hD hS => ?_)
  have hP : va_P D classes [(h0, .inr (0, [.ref q5, .null, .null])), (q5, .inr (1, [.ref u9, .ref v9, .int 0])), (u9, .inl (cB, 1024, .inl (fun _ => 0))), (v9, .inl (cI, 8, .inl (fun _ => 0)))] H := hP
  have hD : va_D A [(h0, .inr (0, [.ref q5, .null, .null])), (q5, .inr (1, [.ref u9, .ref v9, .int 0])), (u9, .inl (cB, 1024, .inl (fun _ => 0))), (v9, .inl (cI, 8, .inl (fun _ => 0)))] := hD
  refine lv_aload_n hx hb d_Wc_init_15 rfl (lv_at hl 0 rfl) ?_
  refine va_new (ci := 2) (fs := [.int 0, .int 0, .int 0, .int 0, .int 0, .int 0, .int 0, .int 0, .int 0]) (C := R_Reg) (T := F_Reg) (N := 9) hx hb hts in_Reg t_Reg t_Reg_ok hown (hts _ q_102) (hts _ q_103) (hts _ q_69) hK hP hD hS hA rfl dv_Reg (Nat.le_of_ble_eq_true rfl) (Nat.le_of_ble_eq_true rfl) d_Wc_init_16 (fun q16 H hP hD hS => ?_)
  have hP : va_P D classes [(h0, .inr (0, [.ref q5, .null, .null])), (q5, .inr (1, [.ref u9, .ref v9, .int 0])), (u9, .inl (cB, 1024, .inl (fun _ => 0))), (v9, .inl (cI, 8, .inl (fun _ => 0))), (q16, .inr (2, [.int 0, .int 0, .int 0, .int 0, .int 0, .int 0, .int 0, .int 0, .int 0]))] H := hP
  have hD : va_D A [(h0, .inr (0, [.ref q5, .null, .null])), (q5, .inr (1, [.ref u9, .ref v9, .int 0])), (u9, .inl (cB, 1024, .inl (fun _ => 0))), (v9, .inl (cI, 8, .inl (fun _ => 0))), (q16, .inr (2, [.int 0, .int 0, .int 0, .int 0, .int 0, .int 0, .int 0, .int 0, .int 0]))] := hD
  refine lv_dup hx hb d_Wc_init_19 rfl ?_
  have hPc := hP.sub (ws' := [(q16, .inr (2, [.int 0, .int 0, .int 0, .int 0, .int 0, .int 0, .int 0, .int 0, .int 0]))]) [4] rfl
  have hDc := hD.sub (ws' := [(q16, .inr (2, [.int 0, .int 0, .int 0, .int 0, .int 0, .int 0, .int 0, .int 0, .int 0]))]) [4] (by decide) rfl
  have hFc := va_free (wc := [(q16, .inr (2, [.int 0, .int 0, .int 0, .int 0, .int 0, .int 0, .int 0, .int 0, .int 0]))]) hD hS hA [4] rfl
  refine va_callv (va_runIN (As := []) (rest := [.ref q16, .ref h0]) ⟨hx, hb, hml, hown, hts⟩ (c_Reg_init l D cB cI q16 H.size) ⟨va_cnB 0 hts (good_c q_106) rfl rfl rfl hN2 (hts _ q_69) ⟨by decide +kernel, by decide +kernel, by decide +kernel⟩ ⟨Nat.le_of_ble_eq_true rfl, Nat.le_of_ble_eq_true rfl⟩, rfl, hts _ q_105⟩ ⟨PN_blind, fun U hU hW => ⟨rfl, by rw [hU], by rw [hU]; exact hPc, va_K.moved hW.alike hK, hDc.weaken (fun _ _ _ _ => trivial)⟩⟩ rfl rfl hl.1 rfl (lv_room (Nat.le_of_ble_eq_true rfl)) d_Wc_init_20 ⟨Nat.le_of_ble_eq_true rfl, Nat.le_of_ble_eq_true rfl⟩) hS (fun q _ h => hFc q h) hFc (fun u t H1 locs ht hvm _ hB hz1 hk1 hS => ?_)
  obtain ⟨hP1, hD1⟩ := hB
  rw [ht] at hP1
  obtain ⟨hP, hD⟩ := va_join (wr := [(h0, .inr (0, [.ref q5, .null, .null])), (q5, .inr (1, [.ref u9, .ref v9, .int 0])), (u9, .inl (cB, 1024, .inl (fun _ => 0))), (v9, .inl (cI, 8, .inl (fun _ => 0)))]) (w1 := [(q16, .inr (2, [.int 0, .int 0, .int 0, .int 255, .int 0, .int 0, .int 0, .int 0, .int 52]))]) hP hD [4] [0, 1, 2, 3] rfl rfl (by decide) (by decide) hk1 hFc hP1 hD1
  generalize H1 = H at hP hS ⊢
  have hP : va_P D classes [(h0, .inr (0, [.ref q5, .null, .null])), (q5, .inr (1, [.ref u9, .ref v9, .int 0])), (u9, .inl (cB, 1024, .inl (fun _ => 0))), (v9, .inl (cI, 8, .inl (fun _ => 0))), (q16, .inr (2, [.int 0, .int 0, .int 0, .int 255, .int 0, .int 0, .int 0, .int 0, .int 52]))] H := hP
  have hD : va_D A [(h0, .inr (0, [.ref q5, .null, .null])), (q5, .inr (1, [.ref u9, .ref v9, .int 0])), (u9, .inl (cB, 1024, .inl (fun _ => 0))), (v9, .inl (cI, 8, .inl (fun _ => 0))), (q16, .inr (2, [.int 0, .int 0, .int 0, .int 255, .int 0, .int 0, .int 0, .int 0, .int 52]))] := hD
  refine va_putF (D := D) (ci := 0) (v := .ref q16) (ty := .object "WideCore$Registers") (C := R_Wc) (T := F_Wc) (N := 3) hx hb hts in_Wc t_Wc t_Wc_ok n_Wc hown hK hP hD hS 0 rfl rfl 1 (by decide) (hts _ q_224) (fun _ h9 => h9) rfl hin rfl (by decide +kernel) rfl rfl (Nat.le_of_ble_eq_true rfl) d_Wc_init_23 (fun H locs hP hD hS => ?_)
  have hP : va_P D classes [(h0, .inr (0, [.ref q5, .ref q16, .null])), (q5, .inr (1, [.ref u9, .ref v9, .int 0])), (u9, .inl (cB, 1024, .inl (fun _ => 0))), (v9, .inl (cI, 8, .inl (fun _ => 0))), (q16, .inr (2, [.int 0, .int 0, .int 0, .int 255, .int 0, .int 0, .int 0, .int 0, .int 52]))] H := hP
  have hD : va_D A [(h0, .inr (0, [.ref q5, .ref q16, .null])), (q5, .inr (1, [.ref u9, .ref v9, .int 0])), (u9, .inl (cB, 1024, .inl (fun _ => 0))), (v9, .inl (cI, 8, .inl (fun _ => 0))), (q16, .inr (2, [.int 0, .int 0, .int 0, .int 255, .int 0, .int 0, .int 0, .int 0, .int 52]))] := hD
  refine lv_aload_n hx hb d_Wc_init_26 rfl (lv_at hl 0 rfl) ?_
  refine va_new (ci := 3) (fs := [.null, .null, .null, .null, .int 0, .int 0, .int 0, .int 0]) (C := R_Prc) (T := F_Prc) (N := 8) hx hb hts in_Prc t_Prc t_Prc_ok hown (hts _ q_162) (hts _ q_163) (hts _ q_70) hK hP hD hS hA rfl dv_Prc (Nat.le_of_ble_eq_true rfl) (Nat.le_of_ble_eq_true rfl) d_Wc_init_27 (fun q27 H hP hD hS => ?_)
  have hP : va_P D classes [(h0, .inr (0, [.ref q5, .ref q16, .null])), (q5, .inr (1, [.ref u9, .ref v9, .int 0])), (u9, .inl (cB, 1024, .inl (fun _ => 0))), (v9, .inl (cI, 8, .inl (fun _ => 0))), (q16, .inr (2, [.int 0, .int 0, .int 0, .int 255, .int 0, .int 0, .int 0, .int 0, .int 52])), (q27, .inr (3, [.null, .null, .null, .null, .int 0, .int 0, .int 0, .int 0]))] H := hP
  have hD : va_D A [(h0, .inr (0, [.ref q5, .ref q16, .null])), (q5, .inr (1, [.ref u9, .ref v9, .int 0])), (u9, .inl (cB, 1024, .inl (fun _ => 0))), (v9, .inl (cI, 8, .inl (fun _ => 0))), (q16, .inr (2, [.int 0, .int 0, .int 0, .int 255, .int 0, .int 0, .int 0, .int 0, .int 52])), (q27, .inr (3, [.null, .null, .null, .null, .int 0, .int 0, .int 0, .int 0]))] := hD
  refine lv_dup hx hb d_Wc_init_30 rfl ?_
  refine lv_aload_n hx hb d_Wc_init_31 rfl (lv_at hl 0 rfl) ?_
  refine va_get (D := D) (ci := 0) (C := R_Wc) (T := F_Wc) (N := 3) hx hb hts in_Wc hown hK hP 0 rfl rfl 0 (by decide) (hts _ q_223) (fun _ h => h) (v := .ref q5) rfl d_Wc_init_32 ?_
  refine lv_aload_n hx hb d_Wc_init_35 rfl (lv_at hl 0 rfl) ?_
  refine va_get (D := D) (ci := 0) (C := R_Wc) (T := F_Wc) (N := 3) hx hb hts in_Wc hown hK hP 0 rfl rfl 1 (by decide) (hts _ q_224) (fun _ h => h) (v := .ref q16) rfl d_Wc_init_36 ?_
  have hPc := hP.sub (ws' := [(q27, .inr (3, [.null, .null, .null, .null, .int 0, .int 0, .int 0, .int 0]))]) [5] rfl
  have hDc := hD.sub (ws' := [(q27, .inr (3, [.null, .null, .null, .null, .int 0, .int 0, .int 0, .int 0]))]) [5] (by decide) rfl
  have hFc := va_free (wc := [(q27, .inr (3, [.null, .null, .null, .null, .int 0, .int 0, .int 0, .int 0]))]) hD hS hA [5] rfl
  refine va_callv (va_runI (As := [.ref q5, .ref q16]) (rest := [.ref q27, .ref h0]) ⟨hx, hb, hml, hown, hts⟩ (c_Prc_init l D cB cI q27 H.size q5 q16) (cwI 2 hts (good_c q_166) rfl rfl rfl (hts _ q_70) (hts _ q_164) (hts _ q_165) rfl ⟨by decide +kernel, by decide +kernel, by decide +kernel⟩ ⟨Nat.le_of_ble_eq_true rfl, Nat.le_of_ble_eq_true rfl⟩) ⟨PN_blind, fun U hU hW => ⟨rfl, by rw [hU], by rw [hU]; exact hPc, va_K.moved hW.alike hK, hDc.weaken (fun _ _ _ _ => trivial)⟩⟩ rfl rfl hl.1 rfl (lv_room (Nat.le_of_ble_eq_true rfl)) d_Wc_init_39 ⟨Nat.le_of_ble_eq_true rfl, Nat.le_of_ble_eq_true rfl⟩) hS (fun q _ h => hFc q h) hFc (fun u t H1 locs ht hvm _ hB hz1 hk1 hS => ?_)
  obtain ⟨u39, v39⟩ := u
  obtain ⟨hP1, hD1⟩ := hB
  rw [ht] at hP1
  obtain ⟨hP, hD⟩ := va_join (wr := [(h0, .inr (0, [.ref q5, .ref q16, .null])), (q5, .inr (1, [.ref u9, .ref v9, .int 0])), (u9, .inl (cB, 1024, .inl (fun _ => 0))), (v9, .inl (cI, 8, .inl (fun _ => 0))), (q16, .inr (2, [.int 0, .int 0, .int 0, .int 255, .int 0, .int 0, .int 0, .int 0, .int 52]))]) (w1 := [(q27, .inr (3, [.ref q5, .ref q16, .ref u39, .ref v39, .int 0, .int 0, .int 0, .int 0])), (u39, .inr (4, [.ref q5, .ref q16])), (v39, .inr (5, [.ref q5, .ref q16]))]) hP hD [5] [0, 1, 2, 3, 4] rfl rfl (by decide) (by decide) hk1 hFc hP1 hD1
  generalize H1 = H at hP hS ⊢
  have hP : va_P D classes [(h0, .inr (0, [.ref q5, .ref q16, .null])), (q5, .inr (1, [.ref u9, .ref v9, .int 0])), (u9, .inl (cB, 1024, .inl (fun _ => 0))), (v9, .inl (cI, 8, .inl (fun _ => 0))), (q16, .inr (2, [.int 0, .int 0, .int 0, .int 255, .int 0, .int 0, .int 0, .int 0, .int 52])), (q27, .inr (3, [.ref q5, .ref q16, .ref u39, .ref v39, .int 0, .int 0, .int 0, .int 0])), (u39, .inr (4, [.ref q5, .ref q16])), (v39, .inr (5, [.ref q5, .ref q16]))] H := hP
  have hD : va_D A [(h0, .inr (0, [.ref q5, .ref q16, .null])), (q5, .inr (1, [.ref u9, .ref v9, .int 0])), (u9, .inl (cB, 1024, .inl (fun _ => 0))), (v9, .inl (cI, 8, .inl (fun _ => 0))), (q16, .inr (2, [.int 0, .int 0, .int 0, .int 255, .int 0, .int 0, .int 0, .int 0, .int 52])), (q27, .inr (3, [.ref q5, .ref q16, .ref u39, .ref v39, .int 0, .int 0, .int 0, .int 0])), (u39, .inr (4, [.ref q5, .ref q16])), (v39, .inr (5, [.ref q5, .ref q16]))] := hD
  refine va_putF (D := D) (ci := 0) (v := .ref q27) (ty := .object "WideCore$Processor") (C := R_Wc) (T := F_Wc) (N := 3) hx hb hts in_Wc t_Wc t_Wc_ok n_Wc hown hK hP hD hS 0 rfl rfl 2 (by decide) (hts _ q_225) (fun _ h9 => h9) rfl hin rfl (by decide +kernel) rfl rfl (Nat.le_of_ble_eq_true rfl) d_Wc_init_42 (fun H locs hP hD hS => ?_)
  have hP : va_P D classes [(h0, .inr (0, [.ref q5, .ref q16, .ref q27])), (q5, .inr (1, [.ref u9, .ref v9, .int 0])), (u9, .inl (cB, 1024, .inl (fun _ => 0))), (v9, .inl (cI, 8, .inl (fun _ => 0))), (q16, .inr (2, [.int 0, .int 0, .int 0, .int 255, .int 0, .int 0, .int 0, .int 0, .int 52])), (q27, .inr (3, [.ref q5, .ref q16, .ref u39, .ref v39, .int 0, .int 0, .int 0, .int 0])), (u39, .inr (4, [.ref q5, .ref q16])), (v39, .inr (5, [.ref q5, .ref q16]))] H := hP
  have hD : va_D A [(h0, .inr (0, [.ref q5, .ref q16, .ref q27])), (q5, .inr (1, [.ref u9, .ref v9, .int 0])), (u9, .inl (cB, 1024, .inl (fun _ => 0))), (v9, .inl (cI, 8, .inl (fun _ => 0))), (q16, .inr (2, [.int 0, .int 0, .int 0, .int 255, .int 0, .int 0, .int 0, .int 0, .int 52])), (q27, .inr (3, [.ref q5, .ref q16, .ref u39, .ref v39, .int 0, .int 0, .int 0, .int 0])), (u39, .inr (4, [.ref q5, .ref q16])), (v39, .inr (5, [.ref q5, .ref q16]))] := hD
  have hP := hP.sub (ws' := wdC cB cI (adr h0 q5 q16 q27 u39 v39 u9 v9) S0) [0, 1, 4, 5, 6, 7, 2, 3] rfl
  have hD := hD.sub (ws' := wdC cB cI (adr h0 q5 q16 q27 u39 v39 u9 v9) S0) [0, 1, 4, 5, 6, 7, 2, 3] (by decide) rfl
  exact W.vret hx hb hr (fun t ht hW => ⟨⟨(adr h0 q5 q16 q27 u39 v39 u9 v9), rfl, rfl, by rw [ht]; exact hP, hD⟩, hS.F ht⟩) hS.2.2 d_Wc_init_45 hlocks
def T0 : Sc := (fun k => match k with | 3 => 255 | 6 => 52 | _ => 0, fun _ => 0, fun _ => 0)
abbrev rm_Mdl_init : Room := { frames := 1, cells := 2, slots := 1032, locals := 20 }
set_option maxHeartbeats 4000000 in
set_option maxRecDepth 100000 in
theorem c_Mdl_init (l : Launch) (D : va_G) (cB cI : ClassId) (h0 sz : Nat) : Met l y_Mdl_init (Cond.code y_Mdl_init b_Mdl_init 1 none :: WS) rm_Mdl_init (va_Pc [.ref h0] (PN D cB cI [(h0, .inr (6, [.null, .int 0, .int 0, .int 0, .int 0, .int 0, .int 0, .int 0, .int 0, .int 0, .int 0, .int 0, .int 0, .int 0, .int 0, .null, .int 0, .int 0]))] sz)) (QN D (fun a => a 0 = h0) (fun a : Nat → Nat => wdT cI a T0) (va_A [(h0, .inr (6, [.null, .int 0, .int 0, .int 0, .int 0, .int 0, .int 0, .int 0, .int 0, .int 0, .int 0, .int 0, .int 0, .int 0, .int 0, .null, .int 0, .int 0]))] sz)) 2 1032 (va_A [(h0, .inr (6, [.null, .int 0, .int 0, .int 0, .int 0, .int 0, .int 0, .int 0, .int 0, .int 0, .int 0, .int 0, .int 0, .int 0, .int 0, .null, .int 0, .int 0]))] sz) := by
  refine Met.ofW (cc := b_Mdl_init) (maxL := 1) (ret := none) (by decide) rfl ?_
  intro p e s m args below meth c s₁ B hml hv
  obtain ⟨rfl, hsz, hP, hK, hD0⟩ := hv
  have hx := B.exec
  have hb := B.bytes
  have hr := B.returns
  have hts := fun w h => atoms_spec (ws := Cond.code y_Mdl_init b_Mdl_init 1 none :: WS) B.pre w (List.mem_cons_of_mem _ h)
  have hown : s.vm.findClass R_Mdl = some m.cls := findClass_of_methodNamed B.named
  have hlocks := B.notSynchronized
  have hin : meth.name = "<init>" := (name_of_methodNamed B.named B.method).1
  subst hsz
  have hD := hD0.self (sz := s.heap.size)
  generalize hAe : va_A [(h0, .inr (6, [.null, .int 0, .int 0, .int 0, .int 0, .int 0, .int 0, .int 0, .int 0, .int 0, .int 0, .int 0, .int 0, .int 0, .int 0, .null, .int 0, .int 0]))] s.heap.size = A at hD ⊢
  have hA : ∀ q : Nat, s.heap.size ≤ q → A q := fun q h => by rw [← hAe]; exact Or.inr h
  have hS : va_S A s.heap s.heap [] := va_S.rf
  have hP : va_P D classes [(h0, .inr (6, [.null, .int 0, .int 0, .int 0, .int 0, .int 0, .int 0, .int 0, .int 0, .int 0, .int 0, .int 0, .int 0, .int 0, .int 0, .null, .int 0, .int 0]))] s.heap := hP
  have hl := lv_entry ([.ref h0]) (n := 1) (Nat.le_of_ble_eq_true rfl)
  rw [lg_entry_eq]
  generalize (lg_sl ([.ref h0]) ++ List.replicate (1 - (lg_sl ([.ref h0])).length) Slot.unset).toArray = ls at hl ⊢
  have hl : lv_has ls 1 [(0, .ref h0)] := hl
  refine lv_aload_n hx hb d_Mdl_init_0 rfl (lv_at hl 0 rfl) ?_
  refine W.objInit hx hb hown (hts _ q_562) (hts _ q_80) (hts _ q_81) rfl (by rw [hml]; exact hl.1) rfl d_Mdl_init_1 (Nat.le_of_ble_eq_true rfl) (Nat.le_of_ble_eq_true rfl) ?_
  refine W.eq (g2 := F0 m 4 ls []) rfl ?_
  refine lv_aload_n hx hb d_Mdl_init_4 rfl (lv_at hl 0 rfl) ?_
  refine lv_sipush (v := (1024 : Int32)) hx hb d_Mdl_init_5 (by decide) ?_
  refine nw_i hx hb (hts _ q_101) hK hP hD hS hA 1024 (by decide) (by decide) (by decide) (Nat.le_of_ble_eq_true rfl) (Nat.le_of_ble_eq_true rfl) d_Mdl_init_8 (fun q8 H hP hD hS => ?_)
  have hP : va_P D classes [(h0, .inr (6, [.null, .int 0, .int 0, .int 0, .int 0, .int 0, .int 0, .int 0, .int 0, .int 0, .int 0, .int 0, .int 0, .int 0, .int 0, .null, .int 0, .int 0])), (q8, .inl (cI, 1024, .inl (fun _ => 0)))] H := hP
  have hD : va_D A [(h0, .inr (6, [.null, .int 0, .int 0, .int 0, .int 0, .int 0, .int 0, .int 0, .int 0, .int 0, .int 0, .int 0, .int 0, .int 0, .int 0, .null, .int 0, .int 0])), (q8, .inl (cI, 1024, .inl (fun _ => 0)))] := hD
  refine va_putF (D := D) (ci := 6) (v := .ref q8) (ty := .array .int) (C := R_Mdl) (T := F_Mdl) (N := 18) hx hb hts in_Mdl t_Mdl t_Mdl_ok n_Mdl hown hK hP hD hS 0 rfl rfl 0 (by decide) (hts _ q_563) (fun _ h9 => h9) rfl hin rfl (by decide +kernel) rfl rfl (Nat.le_of_ble_eq_true rfl) d_Mdl_init_10 (fun H locs hP hD hS => ?_)
  have hP : va_P D classes [(h0, .inr (6, [.ref q8, .int 0, .int 0, .int 0, .int 0, .int 0, .int 0, .int 0, .int 0, .int 0, .int 0, .int 0, .int 0, .int 0, .int 0, .null, .int 0, .int 0])), (q8, .inl (cI, 1024, .inl (fun _ => 0)))] H := hP
  have hD : va_D A [(h0, .inr (6, [.ref q8, .int 0, .int 0, .int 0, .int 0, .int 0, .int 0, .int 0, .int 0, .int 0, .int 0, .int 0, .int 0, .int 0, .int 0, .null, .int 0, .int 0])), (q8, .inl (cI, 1024, .inl (fun _ => 0)))] := hD
  refine lv_aload_n hx hb d_Mdl_init_13 rfl (lv_at hl 0 rfl) ?_
  refine lv_sipush (v := (255 : Int32)) hx hb d_Mdl_init_14 (by decide) ?_
  refine va_put (D := D) (ci := 6) (v := .int (255 : Int32)) (ty := .int) (C := R_Mdl) (T := F_Mdl) (N := 18) hx hb hts in_Mdl t_Mdl t_Mdl_ok n_Mdl hown hK hP hD hS 0 rfl rfl 4 (by decide) (hts _ q_567) (fun _ h9 => h9) rfl (by decide +kernel) rfl rfl (Nat.le_of_ble_eq_true rfl) d_Mdl_init_17 (fun H locs hP hD hS => ?_)
  have hP : va_P D classes [(h0, .inr (6, [.ref q8, .int 0, .int 0, .int 0, .int 255, .int 0, .int 0, .int 0, .int 0, .int 0, .int 0, .int 0, .int 0, .int 0, .int 0, .null, .int 0, .int 0])), (q8, .inl (cI, 1024, .inl (fun _ => 0)))] H := hP
  have hD : va_D A [(h0, .inr (6, [.ref q8, .int 0, .int 0, .int 0, .int 255, .int 0, .int 0, .int 0, .int 0, .int 0, .int 0, .int 0, .int 0, .int 0, .int 0, .null, .int 0, .int 0])), (q8, .inl (cI, 1024, .inl (fun _ => 0)))] := hD
  refine lv_aload_n hx hb d_Mdl_init_20 rfl (lv_at hl 0 rfl) ?_
  refine lv_bipush (v := (52 : Int32)) hx hb d_Mdl_init_21 (by decide) ?_
  refine va_put (D := D) (ci := 6) (v := .int (52 : Int32)) (ty := .int) (C := R_Mdl) (T := F_Mdl) (N := 18) hx hb hts in_Mdl t_Mdl t_Mdl_ok n_Mdl hown hK hP hD hS 0 rfl rfl 7 (by decide) (hts _ q_570) (fun _ h9 => h9) rfl (by decide +kernel) rfl rfl (Nat.le_of_ble_eq_true rfl) d_Mdl_init_23 (fun H locs hP hD hS => ?_)
  have hP : va_P D classes [(h0, .inr (6, [.ref q8, .int 0, .int 0, .int 0, .int 255, .int 0, .int 0, .int 52, .int 0, .int 0, .int 0, .int 0, .int 0, .int 0, .int 0, .null, .int 0, .int 0])), (q8, .inl (cI, 1024, .inl (fun _ => 0)))] H := hP
  have hD : va_D A [(h0, .inr (6, [.ref q8, .int 0, .int 0, .int 0, .int 255, .int 0, .int 0, .int 52, .int 0, .int 0, .int 0, .int 0, .int 0, .int 0, .int 0, .null, .int 0, .int 0])), (q8, .inl (cI, 1024, .inl (fun _ => 0)))] := hD
  refine lv_aload_n hx hb d_Mdl_init_26 rfl (lv_at hl 0 rfl) ?_
  refine lv_bipush (v := (8 : Int32)) hx hb d_Mdl_init_27 (by decide) ?_
  refine nw_i hx hb (hts _ q_101) hK hP hD hS hA 8 (by decide) (by decide) (by decide) (Nat.le_of_ble_eq_true rfl) (Nat.le_of_ble_eq_true rfl) d_Mdl_init_29 (fun q29 H hP hD hS => ?_)
  have hP : va_P D classes [(h0, .inr (6, [.ref q8, .int 0, .int 0, .int 0, .int 255, .int 0, .int 0, .int 52, .int 0, .int 0, .int 0, .int 0, .int 0, .int 0, .int 0, .null, .int 0, .int 0])), (q8, .inl (cI, 1024, .inl (fun _ => 0))), (q29, .inl (cI, 8, .inl (fun _ => 0)))] H := hP
  have hD : va_D A [(h0, .inr (6, [.ref q8, .int 0, .int 0, .int 0, .int 255, .int 0, .int 0, .int 52, .int 0, .int 0, .int 0, .int 0, .int 0, .int 0, .int 0, .null, .int 0, .int 0])), (q8, .inl (cI, 1024, .inl (fun _ => 0))), (q29, .inl (cI, 8, .inl (fun _ => 0)))] := hD
  refine va_putF (D := D) (ci := 6) (v := .ref q29) (ty := .array .int) (C := R_Mdl) (T := F_Mdl) (N := 18) hx hb hts in_Mdl t_Mdl t_Mdl_ok n_Mdl hown hK hP hD hS 0 rfl rfl 15 (by decide) (hts _ q_578) (fun _ h9 => h9) rfl hin rfl (by decide +kernel) rfl rfl (Nat.le_of_ble_eq_true rfl) d_Mdl_init_31 (fun H locs hP hD hS => ?_)
  have hP : va_P D classes [(h0, .inr (6, [.ref q8, .int 0, .int 0, .int 0, .int 255, .int 0, .int 0, .int 52, .int 0, .int 0, .int 0, .int 0, .int 0, .int 0, .int 0, .ref q29, .int 0, .int 0])), (q8, .inl (cI, 1024, .inl (fun _ => 0))), (q29, .inl (cI, 8, .inl (fun _ => 0)))] H := hP
  have hD : va_D A [(h0, .inr (6, [.ref q8, .int 0, .int 0, .int 0, .int 255, .int 0, .int 0, .int 52, .int 0, .int 0, .int 0, .int 0, .int 0, .int 0, .int 0, .ref q29, .int 0, .int 0])), (q8, .inl (cI, 1024, .inl (fun _ => 0))), (q29, .inl (cI, 8, .inl (fun _ => 0)))] := hD
  have hP := hP.sub (ws' := wdT cI (adr h0 q8 q29 0 0 0 0 0) T0) [0, 1, 2] rfl
  have hD := hD.sub (ws' := wdT cI (adr h0 q8 q29 0 0 0 0 0) T0) [0, 1, 2] (by decide) rfl
  exact W.vret hx hb hr (fun t ht hW => ⟨⟨(adr h0 q8 q29 0 0 0 0 0), rfl, rfl, by rw [ht]; exact hP, hD⟩, hS.F ht⟩) hS.2.2 d_Mdl_init_34 hlocks
