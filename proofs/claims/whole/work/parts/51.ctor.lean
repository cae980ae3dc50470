/-! CONSTRUCTORS, by the kit's rows -/
abbrev ct_ty (cI cZ : ClassId) : List (ClassId × FieldType) := [(cI, .int), (cZ, .boolean)]
theorem ct_good (w : Cond) (h : w ∈ a_T0) : GoodIn a_T0 (w :: a_T0) := by
  have hg : ∀ w ∈ a_T0, w ∈ a_T0 ∧ ((w.onTables && w.keeps) = true ∨ ∃ ty, w = .arrayClass ty) := fun w hw => ⟨hw, good_of_word (List.mem_filter.mp hw).2⟩
  intro w2 hw
  rcases List.mem_cons.mp hw with rfl | hw
  · exact hg _ h
  · exact hg w2 hw
theorem ct_newa {p : Program} {l : Launch} {e : Env} {R : Room} {s : State} {m : MethodId} {args : Array Value} {below : List Frame} {meth : Method} {c : Code} {H : Heap} {locs : List Loc} {cells slots : Nat} {Q : State → Prop} {cc : ByteArray} {pc : Nat} {ls : Array Slot} {rest : List Value} {A : Nat → Prop} {H0 : Heap} {D : va_G} {cI cZ : ClassId} {ws : va_W} {n : Int32} {N : Nat} (hx : p.tables.exec = Jvm.exec) (hb : c.code = cc) (harr : (Cond.arrayClass .int).before args s = true) (hK : va_K D vwCl (ct_ty cI cZ) s) (hP : va_P D vwCl ws H) (hD : va_D A ws) (hS : va_S A H0 H locs) (hA : ∀ q, H0.size ≤ q → A q) (hn : ¬ n < 0) (hN : n.toNatClampNeg = N) (hbytes : N * 4 ≤ 536870912) (hcells : cells + 1 ≤ R.cells) (hslots : slots + N ≤ R.slots) (hdg : decode cc pc = .ok (.newarray .int, 2))
    (kk : ∀ (q : Nat) (H1 : Heap), va_P D vwCl (ws ++ [(q, .inl (cI, N, .inl (fun _ => 0)))]) H1 → va_D A (ws ++ [(q, .inl (cI, N, .inl (fun _ => 0)))]) → va_S A H0 H1 locs → W p l e R s m args below meth c H1 locs (cells + 1) (slots + N) Q (F0 m (pc + 2) ls (.ref q :: rest))) : W p l e R s m args below meth c H locs cells slots Q (F0 m pc ls (.int n :: rest)) := by
  refine va_newa (atype := .int) (a0 := (N, .inl (fun _ => 0))) hx hb harr rfl hK hP hD hS hA (fun _ => rfl) hn hN hbytes hcells hslots hdg (fun q cA H1 hK1 hP1 hD1 hS1 => ?_)
  have h1 : s.vm.findClass ("[" ++ (FieldType.int).toString) = some cI := (hK1.2 0 (cI, .int) rfl).2
  have h2 : s.vm.findClass ("[" ++ (FieldType.int).toString) = some cA := (hK1.2 2 (cA, .int) rfl).2
  obtain rfl : cI = cA := Option.some.inj (h1.symm.trans h2)
  exact kk q H1 hP1 hD1 hS1
theorem ct_newaZ {p : Program} {l : Launch} {e : Env} {R : Room} {s : State} {m : MethodId} {args : Array Value} {below : List Frame} {meth : Method} {c : Code} {H : Heap} {locs : List Loc} {cells slots : Nat} {Q : State → Prop} {cc : ByteArray} {pc : Nat} {ls : Array Slot} {rest : List Value} {A : Nat → Prop} {H0 : Heap} {D : va_G} {cI cZ : ClassId} {ws : va_W} {n : Int32} {N : Nat} (hx : p.tables.exec = Jvm.exec) (hb : c.code = cc) (harr : (Cond.arrayClass .boolean).before args s = true) (hK : va_K D vwCl (ct_ty cI cZ) s) (hP : va_P D vwCl ws H) (hD : va_D A ws) (hS : va_S A H0 H locs) (hA : ∀ q, H0.size ≤ q → A q) (hn : ¬ n < 0) (hN : n.toNatClampNeg = N) (hbytes : N * 1 ≤ 536870912) (hcells : cells + 1 ≤ R.cells) (hslots : slots + N ≤ R.slots) (hdg : decode cc pc = .ok (.newarray .boolean, 2))
    (kk : ∀ (q : Nat) (H1 : Heap), va_P D vwCl (ws ++ [(q, .inl (cZ, N, .inl (fun _ => 0)))]) H1 → va_D A (ws ++ [(q, .inl (cZ, N, .inl (fun _ => 0)))]) → va_S A H0 H1 locs → W p l e R s m args below meth c H1 locs (cells + 1) (slots + N) Q (F0 m (pc + 2) ls (.ref q :: rest))) : W p l e R s m args below meth c H locs cells slots Q (F0 m pc ls (.int n :: rest)) := by
  refine va_newa (atype := .boolean) (a0 := (N, .inl (fun _ => 0))) hx hb harr rfl hK hP hD hS hA (fun _ => rfl) hn hN hbytes hcells hslots hdg (fun q cA H1 hK1 hP1 hD1 hS1 => ?_)
  have h1 : s.vm.findClass ("[" ++ (FieldType.boolean).toString) = some cZ := (hK1.2 1 (cZ, .boolean) rfl).2
  have h2 : s.vm.findClass ("[" ++ (FieldType.boolean).toString) = some cA := (hK1.2 2 (cA, .boolean) rfl).2
  obtain rfl : cZ = cA := Option.some.inj (h1.symm.trans h2)
  exact kk q H1 hP1 hD1 hS1
theorem ct_oi : Cond.instanceMethod objectInit ∈ a_T0 := a_mT 56 (by decide +kernel) (by decide +kernel)
set_option maxRecDepth 100000 in
theorem ct_oc : Cond.code objectInit ⟨#[0xb1]⟩ 1 none ∈ a_T0 := a_mT 57 rfl rfl
theorem ct_aI : Cond.arrayClass .int ∈ a_T0 := a_mT 71 (by decide +kernel) (by decide +kernel)
theorem ct_aZ : Cond.arrayClass .boolean ∈ a_T0 := a_mT 777 (by decide +kernel) (by decide +kernel)
set_option maxRecDepth 100000 in
theorem ct_cd4 : Cond.code yX4_init cX4_init 1 none ∈ a_T0 := a_mT 62 rfl rfl
theorem ct_im4 : Cond.instanceMethod yX4_init ∈ a_T0 := a_mT 61 (by decide +kernel) (by decide +kernel)
theorem ct_ol4 : Cond.methodLink RX4 3 objectInit ∈ a_T0 := a_mT 63 (by decide +kernel) (by decide +kernel)
theorem ct_f_4_9 : Cond.fieldLink RX4 9 RX4 "letters" "[I" ∈ a_T0 := a_mT 64 (by decide +kernel) (by decide +kernel)
theorem ct_f_4_15 : Cond.fieldLink RX4 15 RX4 "length" "I" ∈ a_T0 := a_mT 65 (by decide +kernel) (by decide +kernel)
set_option maxRecDepth 100000 in
theorem ct_cd3 : Cond.code yX3_init cX3_init 1 none ∈ a_T0 := a_mT 76 rfl rfl
theorem ct_im3 : Cond.instanceMethod yX3_init ∈ a_T0 := a_mT 75 (by decide +kernel) (by decide +kernel)
theorem ct_ol3 : Cond.methodLink RX3 3 objectInit ∈ a_T0 := a_mT 77 (by decide +kernel) (by decide +kernel)
theorem ct_f_3_9 : Cond.fieldLink RX3 9 RX3 "front" "[I" ∈ a_T0 := a_mT 78 (by decide +kernel) (by decide +kernel)
theorem ct_f_3_15 : Cond.fieldLink RX3 15 RX3 "back" "[I" ∈ a_T0 := a_mT 79 (by decide +kernel) (by decide +kernel)
theorem ct_f_3_18 : Cond.fieldLink RX3 18 RX3 "shown" "[I" ∈ a_T0 := a_mT 80 (by decide +kernel) (by decide +kernel)
theorem ct_f_3_21 : Cond.fieldLink RX3 21 RX3 "width" "I" ∈ a_T0 := a_mT 81 (by decide +kernel) (by decide +kernel)
theorem ct_f_3_25 : Cond.fieldLink RX3 25 RX3 "height" "I" ∈ a_T0 := a_mT 84 (by decide +kernel) (by decide +kernel)
theorem ct_f_3_28 : Cond.fieldLink RX3 28 RX3 "rule" "I" ∈ a_T0 := a_mT 87 (by decide +kernel) (by decide +kernel)
theorem ct_f_3_31 : Cond.fieldLink RX3 31 RX3 "reach" "I" ∈ a_T0 := a_mT 90 (by decide +kernel) (by decide +kernel)
theorem ct_f_3_34 : Cond.fieldLink RX3 34 RX3 "bound" "I" ∈ a_T0 := a_mT 93 (by decide +kernel) (by decide +kernel)
theorem ct_f_3_37 : Cond.fieldLink RX3 37 RX3 "dx" "I" ∈ a_T0 := a_mT 96 (by decide +kernel) (by decide +kernel)
theorem ct_f_3_40 : Cond.fieldLink RX3 40 RX3 "dy" "I" ∈ a_T0 := a_mT 98 (by decide +kernel) (by decide +kernel)
set_option maxRecDepth 100000 in
theorem ct_cd1 : Cond.code yX1_init cX1_init 1 none ∈ a_T0 := a_mT 125 rfl rfl
theorem ct_im1 : Cond.instanceMethod yX1_init ∈ a_T0 := a_mT 124 (by decide +kernel) (by decide +kernel)
theorem ct_ol1 : Cond.methodLink RX1 3 objectInit ∈ a_T0 := a_mT 126 (by decide +kernel) (by decide +kernel)
theorem ct_f_1_9 : Cond.fieldLink RX1 9 RX1 "counts" "[I" ∈ a_T0 := a_mT 127 (by decide +kernel) (by decide +kernel)
theorem ct_f_1_15 : Cond.fieldLink RX1 15 RX1 "sums" "[I" ∈ a_T0 := a_mT 128 (by decide +kernel) (by decide +kernel)
theorem ct_f_1_18 : Cond.fieldLink RX1 18 RX1 "squares" "[I" ∈ a_T0 := a_mT 129 (by decide +kernel) (by decide +kernel)
theorem ct_f_1_21 : Cond.fieldLink RX1 21 RX1 "greys" "[I" ∈ a_T0 := a_mT 130 (by decide +kernel) (by decide +kernel)
theorem ct_f_1_24 : Cond.fieldLink RX1 24 RX1 "alone" "[I" ∈ a_T0 := a_mT 131 (by decide +kernel) (by decide +kernel)
theorem ct_f_1_27 : Cond.fieldLink RX1 27 RX1 "rule" "I" ∈ a_T0 := a_mT 132 (by decide +kernel) (by decide +kernel)
theorem ct_f_1_31 : Cond.fieldLink RX1 31 RX1 "dots" "I" ∈ a_T0 := a_mT 133 (by decide +kernel) (by decide +kernel)
set_option maxRecDepth 100000 in
theorem ct_cd0 : Cond.code yX0_init cX0_init 1 none ∈ a_T0 := a_mT 153 rfl rfl
theorem ct_im0 : Cond.instanceMethod yX0_init ∈ a_T0 := a_mT 152 (by decide +kernel) (by decide +kernel)
theorem ct_ol0 : Cond.methodLink RX0 3 objectInit ∈ a_T0 := a_mT 154 (by decide +kernel) (by decide +kernel)
theorem ct_f_0_9 : Cond.fieldLink RX0 9 RX0 "kinds" "[I" ∈ a_T0 := a_mT 155 (by decide +kernel) (by decide +kernel)
theorem ct_f_0_15 : Cond.fieldLink RX0 15 RX0 "firsts" "[I" ∈ a_T0 := a_mT 156 (by decide +kernel) (by decide +kernel)
theorem ct_f_0_18 : Cond.fieldLink RX0 18 RX0 "seconds" "[I" ∈ a_T0 := a_mT 157 (by decide +kernel) (by decide +kernel)
theorem ct_f_0_21 : Cond.fieldLink RX0 21 RX0 "thirds" "[I" ∈ a_T0 := a_mT 158 (by decide +kernel) (by decide +kernel)
theorem ct_f_0_24 : Cond.fieldLink RX0 24 RX0 "size" "I" ∈ a_T0 := a_mT 159 (by decide +kernel) (by decide +kernel)
set_option maxRecDepth 100000 in
theorem ct_cd2 : Cond.code yX2_init cX2_init 1 none ∈ a_T0 := a_mT 175 rfl rfl
theorem ct_im2 : Cond.instanceMethod yX2_init ∈ a_T0 := a_mT 174 (by decide +kernel) (by decide +kernel)
theorem ct_ol2 : Cond.methodLink RX2 3 objectInit ∈ a_T0 := a_mT 176 (by decide +kernel) (by decide +kernel)
theorem ct_f_2_9 : Cond.fieldLink RX2 9 RX2 "dots" "[I" ∈ a_T0 := a_mT 177 (by decide +kernel) (by decide +kernel)
theorem ct_f_2_15 : Cond.fieldLink RX2 15 RX2 "inks" "[I" ∈ a_T0 := a_mT 178 (by decide +kernel) (by decide +kernel)
theorem ct_f_2_18 : Cond.fieldLink RX2 18 RX2 "size" "I" ∈ a_T0 := a_mT 179 (by decide +kernel) (by decide +kernel)
def ct_w4 : List Cond := .code yX4_init cX4_init 1 none :: a_T0
theorem ct_g4 : GoodIn a_T0 ct_w4 := ct_good _ ct_cd4
def ct_ws4 (cI cZ : ClassId) (h0 q1 : Nat) : va_W := [(h0, .inr (4, [.ref q1, .int 0])), (q1, .inl (cI, 56, .inl (fun _ => 0)))]
abbrev ct_B4 (D : va_G) (cI cZ : ClassId) (A : Nat → Prop) (h0 : Nat) (_ : Unit) (t : State) : Prop := ∃ (q1 : Nat), va_P D vwCl [(h0, .inr (4, [.ref q1, .int 0])), (q1, .inl (cI, 56, .inl (fun _ => 0)))] t.heap ∧ va_K D vwCl (ct_ty cI cZ) t ∧ va_D A [(h0, .inr (4, [.ref q1, .int 0])), (q1, .inl (cI, 56, .inl (fun _ => 0)))]
set_option maxHeartbeats 8000000 in
set_option maxRecDepth 100000 in
theorem ct_X4 (l : Launch) (D : va_G) (cI cZ : ClassId) (h0 : Nat) (sz : Nat) : Met l yX4_init ct_w4 ({ frames := 1, cells := 1, slots := 56, locals := 12 }) (va_Pc [.ref h0] (fun U => U.heap.size = sz ∧ va_P D vwCl [(h0, .inr (4, [.null, .int 0]))] U.heap ∧ va_K D vwCl (ct_ty cI cZ) U ∧ va_D (fun _ => True) [(h0, .inr (4, [.null, .int 0]))])) (va_Qv (fun _ : Unit => True) (ct_B4 D cI cZ (va_A [(h0, .inr (4, [.null, .int 0]))] sz) h0) (va_A [(h0, .inr (4, [.null, .int 0]))] sz)) 1 56 (va_A [(h0, .inr (4, [.null, .int 0]))] sz) := by
  refine Met.ofW (cc := cX4_init) (maxL := 1) (ret := none) (by decide) rfl ?_
  intro p e s m args below meth c s₁ B hml hv
  obtain ⟨rfl, hsz, hP, hK, hD0⟩ := hv
  have hx := B.exec
  have hb := B.bytes
  have hr := B.returns
  have hts := atoms_spec (ws := ct_w4) B.pre
  have hT0 : ∀ w ∈ a_T0, w.before #[.ref h0] s = true := fun w h => hts w (List.mem_cons_of_mem _ h)
  have hown : s.vm.findClass RX4 = some m.cls := findClass_of_methodNamed B.named
  have hlocks := B.notSynchronized
  have hin : meth.name = "<init>" := (name_of_methodNamed B.named B.method).1
  subst hsz
  have hD := hD0.self (sz := s.heap.size)
  generalize hAe : va_A [(h0, .inr (4, [.null, .int 0]))] s.heap.size = A at hD ⊢
  have hA : ∀ q : Nat, s.heap.size ≤ q → A q := fun q h => by rw [← hAe]; exact Or.inr h
  have hS : va_S A s.heap s.heap [] := va_S.rf
  have hP : va_P D vwCl [(h0, .inr (4, [.null, .int 0]))] s.heap := hP
  have hl := lv_entry ([.ref h0]) (n := 1) (Nat.le_of_ble_eq_true rfl)
  rw [lg_entry_eq]
  generalize (lg_sl ([.ref h0]) ++ List.replicate (1 - (lg_sl ([.ref h0])).length) Slot.unset).toArray = ls at hl ⊢
  have hl : lv_has ls 1 [(0, .ref h0)] := hl
  refine lv_aload_n hx hb dX4_init_0 rfl (lv_at hl 0 rfl) ?_
  refine W.objInit hx hb hown (hT0 _ ct_ol4) (hT0 _ ct_oi) (hT0 _ ct_oc) rfl (by rw [hml]; exact hl.1) rfl dX4_init_1 (Nat.le_of_ble_eq_true rfl) (Nat.le_of_ble_eq_true rfl) ?_
  refine W.eq (g2 := F0 m 4 ls []) rfl ?_
  refine lv_aload_n hx hb dX4_init_4 rfl (lv_at hl 0 rfl) ?_
  refine lv_bipush (v := 56) hx hb dX4_init_5 (by decide) ?_
  refine ct_newa (D := D) (cI := cI) (cZ := cZ) (N := 56) hx hb (hT0 _ ct_aI) hK hP hD hS hA (by decide) (by decide) (Nat.le_of_ble_eq_true rfl) (show 0+1 ≤ 1 from Nat.le_of_ble_eq_true rfl) (show 0+56 ≤ 56 from Nat.le_of_ble_eq_true rfl) dX4_init_7 (fun q1 H hP hD hS => ?_)
  have hP : va_P D vwCl [(h0, .inr (4, [.null, .int 0])), (q1, .inl (cI, 56, .inl (fun _ => 0)))] H := hP
  have hD : va_D A [(h0, .inr (4, [.null, .int 0])), (q1, .inl (cI, 56, .inl (fun _ => 0)))] := hD
  refine W.widen (k := 1) (n := 56) (by omega) (by omega) ?_
  refine va_putF (D := D) (ci := 4) (v := .ref q1) (ty := .array .int) (C := RX4) (T := TX4) (N := 2) hx hb hT0 a_inX4 tyX4 tyX4_ok nmX4 hown hK hP hD hS 0 rfl rfl 0 (by decide) (hT0 _ ct_f_4_9) (fun _ h9 => h9) rfl hin rfl (by decide +kernel) rfl rfl (Nat.le_of_ble_eq_true rfl) dX4_init_9 (fun H locs hP hD hS => ?_)
  have hP : va_P D vwCl [(h0, .inr (4, [.ref q1, .int 0])), (q1, .inl (cI, 56, .inl (fun _ => 0)))] H := hP
  have hD : va_D A [(h0, .inr (4, [.ref q1, .int 0])), (q1, .inl (cI, 56, .inl (fun _ => 0)))] := hD
  refine lv_aload_n hx hb dX4_init_12 rfl (lv_at hl 0 rfl) ?_
  refine lv_iconst (v := 0) hx hb dX4_init_13 (by decide) ?_
  refine va_put (D := D) (ci := 4) (v := .int 0) (ty := .int) (C := RX4) (T := TX4) (N := 2) hx hb hT0 a_inX4 tyX4 tyX4_ok nmX4 hown hK hP hD hS 0 rfl rfl 1 (by decide) (hT0 _ ct_f_4_15) (fun _ h9 => h9) rfl (by decide +kernel) rfl rfl (Nat.le_of_ble_eq_true rfl) dX4_init_14 (fun H locs hP hD hS => ?_)
  have hP : va_P D vwCl [(h0, .inr (4, [.ref q1, .int 0])), (q1, .inl (cI, 56, .inl (fun _ => 0)))] H := hP
  have hD : va_D A [(h0, .inr (4, [.ref q1, .int 0])), (q1, .inl (cI, 56, .inl (fun _ => 0)))] := hD
  exact W.vret hx hb hr (fun t ht hW => ⟨⟨(), rfl, trivial, q1, by rw [ht]; exact hP, va_K.moved hW.alike hK, hD⟩, hS.F ht⟩) hS.2.2 dX4_init_17
def ct_w3 : List Cond := .code yX3_init cX3_init 1 none :: a_T0
theorem ct_g3 : GoodIn a_T0 ct_w3 := ct_good _ ct_cd3
def ct_ws3 (cI cZ : ClassId) (h0 q1 q2 q3 : Nat) : va_W := [(h0, .inr (3, [.ref q1, .ref q2, .ref q3, .int 1, .int 1, .int 0, .int 1, .int 1, .int 0, .int 0])), (q1, .inl (cI, 25, .inl (upd (fun _ => 0) 0 9))), (q2, .inl (cI, 25, .inl (upd (fun _ => 0) 0 9))), (q3, .inl (cI, 10, .inl (fun _ => 0)))]
abbrev ct_B3 (D : va_G) (cI cZ : ClassId) (A : Nat → Prop) (h0 : Nat) (_ : Unit) (t : State) : Prop := ∃ (q1 q2 q3 : Nat), va_P D vwCl [(h0, .inr (3, [.ref q1, .ref q2, .ref q3, .int 1, .int 1, .int 0, .int 1, .int 1, .int 0, .int 0])), (q1, .inl (cI, 25, .inl (upd (fun _ => 0) 0 9))), (q2, .inl (cI, 25, .inl (upd (fun _ => 0) 0 9))), (q3, .inl (cI, 10, .inl (fun _ => 0)))] t.heap ∧ va_K D vwCl (ct_ty cI cZ) t ∧ va_D A [(h0, .inr (3, [.ref q1, .ref q2, .ref q3, .int 1, .int 1, .int 0, .int 1, .int 1, .int 0, .int 0])), (q1, .inl (cI, 25, .inl (upd (fun _ => 0) 0 9))), (q2, .inl (cI, 25, .inl (upd (fun _ => 0) 0 9))), (q3, .inl (cI, 10, .inl (fun _ => 0)))]
set_option maxHeartbeats 8000000 in
set_option maxRecDepth 100000 in
theorem ct_X3 (l : Launch) (D : va_G) (cI cZ : ClassId) (h0 : Nat) (sz : Nat) : Met l yX3_init ct_w3 ({ frames := 1, cells := 3, slots := 60, locals := 12 }) (va_Pc [.ref h0] (fun U => U.heap.size = sz ∧ va_P D vwCl [(h0, .inr (3, [.null, .null, .null, .int 0, .int 0, .int 0, .int 0, .int 0, .int 0, .int 0]))] U.heap ∧ va_K D vwCl (ct_ty cI cZ) U ∧ va_D (fun _ => True) [(h0, .inr (3, [.null, .null, .null, .int 0, .int 0, .int 0, .int 0, .int 0, .int 0, .int 0]))])) (va_Qv (fun _ : Unit => True) (ct_B3 D cI cZ (va_A [(h0, .inr (3, [.null, .null, .null, .int 0, .int 0, .int 0, .int 0, .int 0, .int 0, .int 0]))] sz) h0) (va_A [(h0, .inr (3, [.null, .null, .null, .int 0, .int 0, .int 0, .int 0, .int 0, .int 0, .int 0]))] sz)) 3 60 (va_A [(h0, .inr (3, [.null, .null, .null, .int 0, .int 0, .int 0, .int 0, .int 0, .int 0, .int 0]))] sz) := by
  refine Met.ofW (cc := cX3_init) (maxL := 1) (ret := none) (by decide) rfl ?_
  intro p e s m args below meth c s₁ B hml hv
  obtain ⟨rfl, hsz, hP, hK, hD0⟩ := hv
  have hx := B.exec
  have hb := B.bytes
  have hr := B.returns
  have hts := atoms_spec (ws := ct_w3) B.pre
  have hT0 : ∀ w ∈ a_T0, w.before #[.ref h0] s = true := fun w h => hts w (List.mem_cons_of_mem _ h)
  have hown : s.vm.findClass RX3 = some m.cls := findClass_of_methodNamed B.named
  have hlocks := B.notSynchronized
  have hin : meth.name = "<init>" := (name_of_methodNamed B.named B.method).1
  subst hsz
  have hD := hD0.self (sz := s.heap.size)
  generalize hAe : va_A [(h0, .inr (3, [.null, .null, .null, .int 0, .int 0, .int 0, .int 0, .int 0, .int 0, .int 0]))] s.heap.size = A at hD ⊢
  have hA : ∀ q : Nat, s.heap.size ≤ q → A q := fun q h => by rw [← hAe]; exact Or.inr h
  have hS : va_S A s.heap s.heap [] := va_S.rf
  have hP : va_P D vwCl [(h0, .inr (3, [.null, .null, .null, .int 0, .int 0, .int 0, .int 0, .int 0, .int 0, .int 0]))] s.heap := hP
  have hl := lv_entry ([.ref h0]) (n := 1) (Nat.le_of_ble_eq_true rfl)
  rw [lg_entry_eq]
  generalize (lg_sl ([.ref h0]) ++ List.replicate (1 - (lg_sl ([.ref h0])).length) Slot.unset).toArray = ls at hl ⊢
  have hl : lv_has ls 1 [(0, .ref h0)] := hl
  refine lv_aload_n hx hb dX3_init_0 rfl (lv_at hl 0 rfl) ?_
  refine W.objInit hx hb hown (hT0 _ ct_ol3) (hT0 _ ct_oi) (hT0 _ ct_oc) rfl (by rw [hml]; exact hl.1) rfl dX3_init_1 (Nat.le_of_ble_eq_true rfl) (Nat.le_of_ble_eq_true rfl) ?_
  refine W.eq (g2 := F0 m 4 ls []) rfl ?_
  refine lv_aload_n hx hb dX3_init_4 rfl (lv_at hl 0 rfl) ?_
  refine lv_bipush (v := 25) hx hb dX3_init_5 (by decide) ?_
  refine ct_newa (D := D) (cI := cI) (cZ := cZ) (N := 25) hx hb (hT0 _ ct_aI) hK hP hD hS hA (by decide) (by decide) (Nat.le_of_ble_eq_true rfl) (show 0+1 ≤ 3 from Nat.le_of_ble_eq_true rfl) (show 0+25 ≤ 60 from Nat.le_of_ble_eq_true rfl) dX3_init_7 (fun q1 H hP hD hS => ?_)
  have hP : va_P D vwCl [(h0, .inr (3, [.null, .null, .null, .int 0, .int 0, .int 0, .int 0, .int 0, .int 0, .int 0])), (q1, .inl (cI, 25, .inl (fun _ => 0)))] H := hP
  have hD : va_D A [(h0, .inr (3, [.null, .null, .null, .int 0, .int 0, .int 0, .int 0, .int 0, .int 0, .int 0])), (q1, .inl (cI, 25, .inl (fun _ => 0)))] := hD
  refine W.widen (k := 1) (n := 25) (by omega) (by omega) ?_
  refine va_putF (D := D) (ci := 3) (v := .ref q1) (ty := .array .int) (C := RX3) (T := TX3) (N := 10) hx hb hT0 a_inX3 tyX3 tyX3_ok nmX3 hown hK hP hD hS 0 rfl rfl 0 (by decide) (hT0 _ ct_f_3_9) (fun _ h9 => h9) rfl hin rfl (by decide +kernel) rfl rfl (Nat.le_of_ble_eq_true rfl) dX3_init_9 (fun H locs hP hD hS => ?_)
  have hP : va_P D vwCl [(h0, .inr (3, [.ref q1, .null, .null, .int 0, .int 0, .int 0, .int 0, .int 0, .int 0, .int 0])), (q1, .inl (cI, 25, .inl (fun _ => 0)))] H := hP
  have hD : va_D A [(h0, .inr (3, [.ref q1, .null, .null, .int 0, .int 0, .int 0, .int 0, .int 0, .int 0, .int 0])), (q1, .inl (cI, 25, .inl (fun _ => 0)))] := hD
  refine lv_aload_n hx hb dX3_init_12 rfl (lv_at hl 0 rfl) ?_
  refine lv_bipush (v := 25) hx hb dX3_init_13 (by decide) ?_
  refine ct_newa (D := D) (cI := cI) (cZ := cZ) (N := 25) hx hb (hT0 _ ct_aI) hK hP hD hS hA (by decide) (by decide) (Nat.le_of_ble_eq_true rfl) (show 1+1 ≤ 3 from Nat.le_of_ble_eq_true rfl) (show 25+25 ≤ 60 from Nat.le_of_ble_eq_true rfl) dX3_init_15 (fun q2 H hP hD hS => ?_)
  have hP : va_P D vwCl [(h0, .inr (3, [.ref q1, .null, .null, .int 0, .int 0, .int 0, .int 0, .int 0, .int 0, .int 0])), (q1, .inl (cI, 25, .inl (fun _ => 0))), (q2, .inl (cI, 25, .inl (fun _ => 0)))] H := hP
  have hD : va_D A [(h0, .inr (3, [.ref q1, .null, .null, .int 0, .int 0, .int 0, .int 0, .int 0, .int 0, .int 0])), (q1, .inl (cI, 25, .inl (fun _ => 0))), (q2, .inl (cI, 25, .inl (fun _ => 0)))] := hD
  refine W.widen (k := 2) (n := 50) (by omega) (by omega) ?_
  refine va_putF (D := D) (ci := 3) (v := .ref q2) (ty := .array .int) (C := RX3) (T := TX3) (N := 10) hx hb hT0 a_inX3 tyX3 tyX3_ok nmX3 hown hK hP hD hS 0 rfl rfl 1 (by decide) (hT0 _ ct_f_3_15) (fun _ h9 => h9) rfl hin rfl (by decide +kernel) rfl rfl (Nat.le_of_ble_eq_true rfl) dX3_init_17 (fun H locs hP hD hS => ?_)
  have hP : va_P D vwCl [(h0, .inr (3, [.ref q1, .ref q2, .null, .int 0, .int 0, .int 0, .int 0, .int 0, .int 0, .int 0])), (q1, .inl (cI, 25, .inl (fun _ => 0))), (q2, .inl (cI, 25, .inl (fun _ => 0)))] H := hP
  have hD : va_D A [(h0, .inr (3, [.ref q1, .ref q2, .null, .int 0, .int 0, .int 0, .int 0, .int 0, .int 0, .int 0])), (q1, .inl (cI, 25, .inl (fun _ => 0))), (q2, .inl (cI, 25, .inl (fun _ => 0)))] := hD
  refine lv_aload_n hx hb dX3_init_20 rfl (lv_at hl 0 rfl) ?_
  refine lv_bipush (v := 10) hx hb dX3_init_21 (by decide) ?_
  refine ct_newa (D := D) (cI := cI) (cZ := cZ) (N := 10) hx hb (hT0 _ ct_aI) hK hP hD hS hA (by decide) (by decide) (Nat.le_of_ble_eq_true rfl) (show 2+1 ≤ 3 from Nat.le_of_ble_eq_true rfl) (show 50+10 ≤ 60 from Nat.le_of_ble_eq_true rfl) dX3_init_23 (fun q3 H hP hD hS => ?_)
  have hP : va_P D vwCl [(h0, .inr (3, [.ref q1, .ref q2, .null, .int 0, .int 0, .int 0, .int 0, .int 0, .int 0, .int 0])), (q1, .inl (cI, 25, .inl (fun _ => 0))), (q2, .inl (cI, 25, .inl (fun _ => 0))), (q3, .inl (cI, 10, .inl (fun _ => 0)))] H := hP
  have hD : va_D A [(h0, .inr (3, [.ref q1, .ref q2, .null, .int 0, .int 0, .int 0, .int 0, .int 0, .int 0, .int 0])), (q1, .inl (cI, 25, .inl (fun _ => 0))), (q2, .inl (cI, 25, .inl (fun _ => 0))), (q3, .inl (cI, 10, .inl (fun _ => 0)))] := hD
  refine W.widen (k := 3) (n := 60) (by omega) (by omega) ?_
  refine va_putF (D := D) (ci := 3) (v := .ref q3) (ty := .array .int) (C := RX3) (T := TX3) (N := 10) hx hb hT0 a_inX3 tyX3 tyX3_ok nmX3 hown hK hP hD hS 0 rfl rfl 2 (by decide) (hT0 _ ct_f_3_18) (fun _ h9 => h9) rfl hin rfl (by decide +kernel) rfl rfl (Nat.le_of_ble_eq_true rfl) dX3_init_25 (fun H locs hP hD hS => ?_)
  have hP : va_P D vwCl [(h0, .inr (3, [.ref q1, .ref q2, .ref q3, .int 0, .int 0, .int 0, .int 0, .int 0, .int 0, .int 0])), (q1, .inl (cI, 25, .inl (fun _ => 0))), (q2, .inl (cI, 25, .inl (fun _ => 0))), (q3, .inl (cI, 10, .inl (fun _ => 0)))] H := hP
  have hD : va_D A [(h0, .inr (3, [.ref q1, .ref q2, .ref q3, .int 0, .int 0, .int 0, .int 0, .int 0, .int 0, .int 0])), (q1, .inl (cI, 25, .inl (fun _ => 0))), (q2, .inl (cI, 25, .inl (fun _ => 0))), (q3, .inl (cI, 10, .inl (fun _ => 0)))] := hD
  refine lv_aload_n hx hb dX3_init_28 rfl (lv_at hl 0 rfl) ?_
  refine lv_iconst (v := 1) hx hb dX3_init_29 (by decide) ?_
  refine va_put (D := D) (ci := 3) (v := .int 1) (ty := .int) (C := RX3) (T := TX3) (N := 10) hx hb hT0 a_inX3 tyX3 tyX3_ok nmX3 hown hK hP hD hS 0 rfl rfl 3 (by decide) (hT0 _ ct_f_3_21) (fun _ h9 => h9) rfl (by decide +kernel) rfl rfl (Nat.le_of_ble_eq_true rfl) dX3_init_30 (fun H locs hP hD hS => ?_)
  have hP : va_P D vwCl [(h0, .inr (3, [.ref q1, .ref q2, .ref q3, .int 1, .int 0, .int 0, .int 0, .int 0, .int 0, .int 0])), (q1, .inl (cI, 25, .inl (fun _ => 0))), (q2, .inl (cI, 25, .inl (fun _ => 0))), (q3, .inl (cI, 10, .inl (fun _ => 0)))] H := hP
  have hD : va_D A [(h0, .inr (3, [.ref q1, .ref q2, .ref q3, .int 1, .int 0, .int 0, .int 0, .int 0, .int 0, .int 0])), (q1, .inl (cI, 25, .inl (fun _ => 0))), (q2, .inl (cI, 25, .inl (fun _ => 0))), (q3, .inl (cI, 10, .inl (fun _ => 0)))] := hD
  refine lv_aload_n hx hb dX3_init_33 rfl (lv_at hl 0 rfl) ?_
  refine lv_iconst (v := 1) hx hb dX3_init_34 (by decide) ?_
  refine va_put (D := D) (ci := 3) (v := .int 1) (ty := .int) (C := RX3) (T := TX3) (N := 10) hx hb hT0 a_inX3 tyX3 tyX3_ok nmX3 hown hK hP hD hS 0 rfl rfl 4 (by decide) (hT0 _ ct_f_3_25) (fun _ h9 => h9) rfl (by decide +kernel) rfl rfl (Nat.le_of_ble_eq_true rfl) dX3_init_35 (fun H locs hP hD hS => ?_)
  have hP : va_P D vwCl [(h0, .inr (3, [.ref q1, .ref q2, .ref q3, .int 1, .int 1, .int 0, .int 0, .int 0, .int 0, .int 0])), (q1, .inl (cI, 25, .inl (fun _ => 0))), (q2, .inl (cI, 25, .inl (fun _ => 0))), (q3, .inl (cI, 10, .inl (fun _ => 0)))] H := hP
  have hD : va_D A [(h0, .inr (3, [.ref q1, .ref q2, .ref q3, .int 1, .int 1, .int 0, .int 0, .int 0, .int 0, .int 0])), (q1, .inl (cI, 25, .inl (fun _ => 0))), (q2, .inl (cI, 25, .inl (fun _ => 0))), (q3, .inl (cI, 10, .inl (fun _ => 0)))] := hD
  refine lv_aload_n hx hb dX3_init_38 rfl (lv_at hl 0 rfl) ?_
  refine va_get (D := D) (ci := 3) (v := .ref q1) (C := RX3) (T := TX3) (N := 10) hx hb hT0 a_inX3 hown hK hP 0 rfl rfl 0 (by decide) (hT0 _ ct_f_3_9) (fun _ h9 => h9) rfl dX3_init_39 ?_
  refine lv_iconst (v := 0) hx hb dX3_init_42 (by decide) ?_
  refine lv_bipush (v := 9) hx hb dX3_init_43 (by decide) ?_
  refine va_iast hx hb hK hP hD hS 1 0 rfl rfl (i := 0) (x := 9) (show ¬ ((0 : Int32) < 0 ∨ 25 ≤ (0 : Int32).toNatClampNeg) by decide) dX3_init_45 (fun H locs hP hD hS => ?_)
  have hP : va_P D vwCl [(h0, .inr (3, [.ref q1, .ref q2, .ref q3, .int 1, .int 1, .int 0, .int 0, .int 0, .int 0, .int 0])), (q1, .inl (cI, 25, .inl (upd (fun _ => 0) 0 9))), (q2, .inl (cI, 25, .inl (fun _ => 0))), (q3, .inl (cI, 10, .inl (fun _ => 0)))] H := hP
  have hD : va_D A [(h0, .inr (3, [.ref q1, .ref q2, .ref q3, .int 1, .int 1, .int 0, .int 0, .int 0, .int 0, .int 0])), (q1, .inl (cI, 25, .inl (upd (fun _ => 0) 0 9))), (q2, .inl (cI, 25, .inl (fun _ => 0))), (q3, .inl (cI, 10, .inl (fun _ => 0)))] := hD
  refine lv_aload_n hx hb dX3_init_46 rfl (lv_at hl 0 rfl) ?_
  refine va_get (D := D) (ci := 3) (v := .ref q2) (C := RX3) (T := TX3) (N := 10) hx hb hT0 a_inX3 hown hK hP 0 rfl rfl 1 (by decide) (hT0 _ ct_f_3_15) (fun _ h9 => h9) rfl dX3_init_47 ?_
  refine lv_iconst (v := 0) hx hb dX3_init_50 (by decide) ?_
  refine lv_bipush (v := 9) hx hb dX3_init_51 (by decide) ?_
  refine va_iast hx hb hK hP hD hS 2 0 rfl rfl (i := 0) (x := 9) (show ¬ ((0 : Int32) < 0 ∨ 25 ≤ (0 : Int32).toNatClampNeg) by decide) dX3_init_53 (fun H locs hP hD hS => ?_)
  have hP : va_P D vwCl [(h0, .inr (3, [.ref q1, .ref q2, .ref q3, .int 1, .int 1, .int 0, .int 0, .int 0, .int 0, .int 0])), (q1, .inl (cI, 25, .inl (upd (fun _ => 0) 0 9))), (q2, .inl (cI, 25, .inl (upd (fun _ => 0) 0 9))), (q3, .inl (cI, 10, .inl (fun _ => 0)))] H := hP
  have hD : va_D A [(h0, .inr (3, [.ref q1, .ref q2, .ref q3, .int 1, .int 1, .int 0, .int 0, .int 0, .int 0, .int 0])), (q1, .inl (cI, 25, .inl (upd (fun _ => 0) 0 9))), (q2, .inl (cI, 25, .inl (upd (fun _ => 0) 0 9))), (q3, .inl (cI, 10, .inl (fun _ => 0)))] := hD
  refine lv_aload_n hx hb dX3_init_54 rfl (lv_at hl 0 rfl) ?_
  refine lv_iconst (v := 0) hx hb dX3_init_55 (by decide) ?_
  refine va_put (D := D) (ci := 3) (v := .int 0) (ty := .int) (C := RX3) (T := TX3) (N := 10) hx hb hT0 a_inX3 tyX3 tyX3_ok nmX3 hown hK hP hD hS 0 rfl rfl 5 (by decide) (hT0 _ ct_f_3_28) (fun _ h9 => h9) rfl (by decide +kernel) rfl rfl (Nat.le_of_ble_eq_true rfl) dX3_init_56 (fun H locs hP hD hS => ?_)
  have hP : va_P D vwCl [(h0, .inr (3, [.ref q1, .ref q2, .ref q3, .int 1, .int 1, .int 0, .int 0, .int 0, .int 0, .int 0])), (q1, .inl (cI, 25, .inl (upd (fun _ => 0) 0 9))), (q2, .inl (cI, 25, .inl (upd (fun _ => 0) 0 9))), (q3, .inl (cI, 10, .inl (fun _ => 0)))] H := hP
  have hD : va_D A [(h0, .inr (3, [.ref q1, .ref q2, .ref q3, .int 1, .int 1, .int 0, .int 0, .int 0, .int 0, .int 0])), (q1, .inl (cI, 25, .inl (upd (fun _ => 0) 0 9))), (q2, .inl (cI, 25, .inl (upd (fun _ => 0) 0 9))), (q3, .inl (cI, 10, .inl (fun _ => 0)))] := hD
  refine lv_aload_n hx hb dX3_init_59 rfl (lv_at hl 0 rfl) ?_
  refine lv_iconst (v := 1) hx hb dX3_init_60 (by decide) ?_
  refine va_put (D := D) (ci := 3) (v := .int 1) (ty := .int) (C := RX3) (T := TX3) (N := 10) hx hb hT0 a_inX3 tyX3 tyX3_ok nmX3 hown hK hP hD hS 0 rfl rfl 6 (by decide) (hT0 _ ct_f_3_31) (fun _ h9 => h9) rfl (by decide +kernel) rfl rfl (Nat.le_of_ble_eq_true rfl) dX3_init_61 (fun H locs hP hD hS => ?_)
  have hP : va_P D vwCl [(h0, .inr (3, [.ref q1, .ref q2, .ref q3, .int 1, .int 1, .int 0, .int 1, .int 0, .int 0, .int 0])), (q1, .inl (cI, 25, .inl (upd (fun _ => 0) 0 9))), (q2, .inl (cI, 25, .inl (upd (fun _ => 0) 0 9))), (q3, .inl (cI, 10, .inl (fun _ => 0)))] H := hP
  have hD : va_D A [(h0, .inr (3, [.ref q1, .ref q2, .ref q3, .int 1, .int 1, .int 0, .int 1, .int 0, .int 0, .int 0])), (q1, .inl (cI, 25, .inl (upd (fun _ => 0) 0 9))), (q2, .inl (cI, 25, .inl (upd (fun _ => 0) 0 9))), (q3, .inl (cI, 10, .inl (fun _ => 0)))] := hD
  refine lv_aload_n hx hb dX3_init_64 rfl (lv_at hl 0 rfl) ?_
  refine lv_iconst (v := 1) hx hb dX3_init_65 (by decide) ?_
  refine va_put (D := D) (ci := 3) (v := .int 1) (ty := .int) (C := RX3) (T := TX3) (N := 10) hx hb hT0 a_inX3 tyX3 tyX3_ok nmX3 hown hK hP hD hS 0 rfl rfl 7 (by decide) (hT0 _ ct_f_3_34) (fun _ h9 => h9) rfl (by decide +kernel) rfl rfl (Nat.le_of_ble_eq_true rfl) dX3_init_66 (fun H locs hP hD hS => ?_)
  have hP : va_P D vwCl [(h0, .inr (3, [.ref q1, .ref q2, .ref q3, .int 1, .int 1, .int 0, .int 1, .int 1, .int 0, .int 0])), (q1, .inl (cI, 25, .inl (upd (fun _ => 0) 0 9))), (q2, .inl (cI, 25, .inl (upd (fun _ => 0) 0 9))), (q3, .inl (cI, 10, .inl (fun _ => 0)))] H := hP
  have hD : va_D A [(h0, .inr (3, [.ref q1, .ref q2, .ref q3, .int 1, .int 1, .int 0, .int 1, .int 1, .int 0, .int 0])), (q1, .inl (cI, 25, .inl (upd (fun _ => 0) 0 9))), (q2, .inl (cI, 25, .inl (upd (fun _ => 0) 0 9))), (q3, .inl (cI, 10, .inl (fun _ => 0)))] := hD
  refine lv_aload_n hx hb dX3_init_69 rfl (lv_at hl 0 rfl) ?_
  refine lv_iconst (v := 0) hx hb dX3_init_70 (by decide) ?_
  refine va_put (D := D) (ci := 3) (v := .int 0) (ty := .int) (C := RX3) (T := TX3) (N := 10) hx hb hT0 a_inX3 tyX3 tyX3_ok nmX3 hown hK hP hD hS 0 rfl rfl 8 (by decide) (hT0 _ ct_f_3_37) (fun _ h9 => h9) rfl (by decide +kernel) rfl rfl (Nat.le_of_ble_eq_true rfl) dX3_init_71 (fun H locs hP hD hS => ?_)
  have hP : va_P D vwCl [(h0, .inr (3, [.ref q1, .ref q2, .ref q3, .int 1, .int 1, .int 0, .int 1, .int 1, .int 0, .int 0])), (q1, .inl (cI, 25, .inl (upd (fun _ => 0) 0 9))), (q2, .inl (cI, 25, .inl (upd (fun _ => 0) 0 9))), (q3, .inl (cI, 10, .inl (fun _ => 0)))] H := hP
  have hD : va_D A [(h0, .inr (3, [.ref q1, .ref q2, .ref q3, .int 1, .int 1, .int 0, .int 1, .int 1, .int 0, .int 0])), (q1, .inl (cI, 25, .inl (upd (fun _ => 0) 0 9))), (q2, .inl (cI, 25, .inl (upd (fun _ => 0) 0 9))), (q3, .inl (cI, 10, .inl (fun _ => 0)))] := hD
  refine lv_aload_n hx hb dX3_init_74 rfl (lv_at hl 0 rfl) ?_
  refine lv_iconst (v := 0) hx hb dX3_init_75 (by decide) ?_
  refine va_put (D := D) (ci := 3) (v := .int 0) (ty := .int) (C := RX3) (T := TX3) (N := 10) hx hb hT0 a_inX3 tyX3 tyX3_ok nmX3 hown hK hP hD hS 0 rfl rfl 9 (by decide) (hT0 _ ct_f_3_40) (fun _ h9 => h9) rfl (by decide +kernel) rfl rfl (Nat.le_of_ble_eq_true rfl) dX3_init_76 (fun H locs hP hD hS => ?_)
  have hP : va_P D vwCl [(h0, .inr (3, [.ref q1, .ref q2, .ref q3, .int 1, .int 1, .int 0, .int 1, .int 1, .int 0, .int 0])), (q1, .inl (cI, 25, .inl (upd (fun _ => 0) 0 9))), (q2, .inl (cI, 25, .inl (upd (fun _ => 0) 0 9))), (q3, .inl (cI, 10, .inl (fun _ => 0)))] H := hP
  have hD : va_D A [(h0, .inr (3, [.ref q1, .ref q2, .ref q3, .int 1, .int 1, .int 0, .int 1, .int 1, .int 0, .int 0])), (q1, .inl (cI, 25, .inl (upd (fun _ => 0) 0 9))), (q2, .inl (cI, 25, .inl (upd (fun _ => 0) 0 9))), (q3, .inl (cI, 10, .inl (fun _ => 0)))] := hD
  exact W.vret hx hb hr (fun t ht hW => ⟨⟨(), rfl, trivial, q1, q2, q3, by rw [ht]; exact hP, va_K.moved hW.alike hK, hD⟩, hS.F ht⟩) hS.2.2 dX3_init_79
def ct_w1 : List Cond := .code yX1_init cX1_init 1 none :: a_T0
theorem ct_g1 : GoodIn a_T0 ct_w1 := ct_good _ ct_cd1
def ct_ws1 (cI cZ : ClassId) (h0 q1 q2 q3 q4 q5 : Nat) : va_W := [(h0, .inr (1, [.ref q1, .ref q2, .ref q3, .ref q4, .ref q5, .int 0, .int 0])), (q1, .inl (cI, 25, .inl (fun _ => 0))), (q2, .inl (cI, 25, .inl (fun _ => 0))), (q3, .inl (cI, 25, .inl (fun _ => 0))), (q4, .inl (cI, 25, .inl (fun _ => 0))), (q5, .inl (cI, 25, .inl (fun _ => 0)))]
abbrev ct_B1 (D : va_G) (cI cZ : ClassId) (A : Nat → Prop) (h0 : Nat) (_ : Unit) (t : State) : Prop := ∃ (q1 q2 q3 q4 q5 : Nat), va_P D vwCl [(h0, .inr (1, [.ref q1, .ref q2, .ref q3, .ref q4, .ref q5, .int 0, .int 0])), (q1, .inl (cI, 25, .inl (fun _ => 0))), (q2, .inl (cI, 25, .inl (fun _ => 0))), (q3, .inl (cI, 25, .inl (fun _ => 0))), (q4, .inl (cI, 25, .inl (fun _ => 0))), (q5, .inl (cI, 25, .inl (fun _ => 0)))] t.heap ∧ va_K D vwCl (ct_ty cI cZ) t ∧ va_D A [(h0, .inr (1, [.ref q1, .ref q2, .ref q3, .ref q4, .ref q5, .int 0, .int 0])), (q1, .inl (cI, 25, .inl (fun _ => 0))), (q2, .inl (cI, 25, .inl (fun _ => 0))), (q3, .inl (cI, 25, .inl (fun _ => 0))), (q4, .inl (cI, 25, .inl (fun _ => 0))), (q5, .inl (cI, 25, .inl (fun _ => 0)))]
set_option maxHeartbeats 8000000 in
set_option maxRecDepth 100000 in
theorem ct_X1 (l : Launch) (D : va_G) (cI cZ : ClassId) (h0 : Nat) (sz : Nat) : Met l yX1_init ct_w1 ({ frames := 1, cells := 5, slots := 125, locals := 12 }) (va_Pc [.ref h0] (fun U => U.heap.size = sz ∧ va_P D vwCl [(h0, .inr (1, [.null, .null, .null, .null, .null, .int 0, .int 0]))] U.heap ∧ va_K D vwCl (ct_ty cI cZ) U ∧ va_D (fun _ => True) [(h0, .inr (1, [.null, .null, .null, .null, .null, .int 0, .int 0]))])) (va_Qv (fun _ : Unit => True) (ct_B1 D cI cZ (va_A [(h0, .inr (1, [.null, .null, .null, .null, .null, .int 0, .int 0]))] sz) h0) (va_A [(h0, .inr (1, [.null, .null, .null, .null, .null, .int 0, .int 0]))] sz)) 5 125 (va_A [(h0, .inr (1, [.null, .null, .null, .null, .null, .int 0, .int 0]))] sz) := by
  refine Met.ofW (cc := cX1_init) (maxL := 1) (ret := none) (by decide) rfl ?_
  intro p e s m args below meth c s₁ B hml hv
  obtain ⟨rfl, hsz, hP, hK, hD0⟩ := hv
  have hx := B.exec
  have hb := B.bytes
  have hr := B.returns
  have hts := atoms_spec (ws := ct_w1) B.pre
  have hT0 : ∀ w ∈ a_T0, w.before #[.ref h0] s = true := fun w h => hts w (List.mem_cons_of_mem _ h)
  have hown : s.vm.findClass RX1 = some m.cls := findClass_of_methodNamed B.named
  have hlocks := B.notSynchronized
  have hin : meth.name = "<init>" := (name_of_methodNamed B.named B.method).1
  subst hsz
  have hD := hD0.self (sz := s.heap.size)
  generalize hAe : va_A [(h0, .inr (1, [.null, .null, .null, .null, .null, .int 0, .int 0]))] s.heap.size = A at hD ⊢
  have hA : ∀ q : Nat, s.heap.size ≤ q → A q := fun q h => by rw [← hAe]; exact Or.inr h
  have hS : va_S A s.heap s.heap [] := va_S.rf
  have hP : va_P D vwCl [(h0, .inr (1, [.null, .null, .null, .null, .null, .int 0, .int 0]))] s.heap := hP
  have hl := lv_entry ([.ref h0]) (n := 1) (Nat.le_of_ble_eq_true rfl)
  rw [lg_entry_eq]
  generalize (lg_sl ([.ref h0]) ++ List.replicate (1 - (lg_sl ([.ref h0])).length) Slot.unset).toArray = ls at hl ⊢
  have hl : lv_has ls 1 [(0, .ref h0)] := hl
  refine lv_aload_n hx hb dX1_init_0 rfl (lv_at hl 0 rfl) ?_
  refine W.objInit hx hb hown (hT0 _ ct_ol1) (hT0 _ ct_oi) (hT0 _ ct_oc) rfl (by rw [hml]; exact hl.1) rfl dX1_init_1 (Nat.le_of_ble_eq_true rfl) (Nat.le_of_ble_eq_true rfl) ?_
  refine W.eq (g2 := F0 m 4 ls []) rfl ?_
  refine lv_aload_n hx hb dX1_init_4 rfl (lv_at hl 0 rfl) ?_
  refine lv_bipush (v := 25) hx hb dX1_init_5 (by decide) ?_
  refine ct_newa (D := D) (cI := cI) (cZ := cZ) (N := 25) hx hb (hT0 _ ct_aI) hK hP hD hS hA (by decide) (by decide) (Nat.le_of_ble_eq_true rfl) (show 0+1 ≤ 5 from Nat.le_of_ble_eq_true rfl) (show 0+25 ≤ 125 from Nat.le_of_ble_eq_true rfl) dX1_init_7 (fun q1 H hP hD hS => ?_)
  have hP : va_P D vwCl [(h0, .inr (1, [.null, .null, .null, .null, .null, .int 0, .int 0])), (q1, .inl (cI, 25, .inl (fun _ => 0)))] H := hP
  have hD : va_D A [(h0, .inr (1, [.null, .null, .null, .null, .null, .int 0, .int 0])), (q1, .inl (cI, 25, .inl (fun _ => 0)))] := hD
  refine W.widen (k := 1) (n := 25) (by omega) (by omega) ?_
  refine va_putF (D := D) (ci := 1) (v := .ref q1) (ty := .array .int) (C := RX1) (T := TX1) (N := 7) hx hb hT0 a_inX1 tyX1 tyX1_ok nmX1 hown hK hP hD hS 0 rfl rfl 0 (by decide) (hT0 _ ct_f_1_9) (fun _ h9 => h9) rfl hin rfl (by decide +kernel) rfl rfl (Nat.le_of_ble_eq_true rfl) dX1_init_9 (fun H locs hP hD hS => ?_)
  have hP : va_P D vwCl [(h0, .inr (1, [.ref q1, .null, .null, .null, .null, .int 0, .int 0])), (q1, .inl (cI, 25, .inl (fun _ => 0)))] H := hP
  have hD : va_D A [(h0, .inr (1, [.ref q1, .null, .null, .null, .null, .int 0, .int 0])), (q1, .inl (cI, 25, .inl (fun _ => 0)))] := hD
  refine lv_aload_n hx hb dX1_init_12 rfl (lv_at hl 0 rfl) ?_
  refine lv_bipush (v := 25) hx hb dX1_init_13 (by decide) ?_
  refine ct_newa (D := D) (cI := cI) (cZ := cZ) (N := 25) hx hb (hT0 _ ct_aI) hK hP hD hS hA (by decide) (by decide) (Nat.le_of_ble_eq_true rfl) (show 1+1 ≤ 5 from Nat.le_of_ble_eq_true rfl) (show 25+25 ≤ 125 from Nat.le_of_ble_eq_true rfl) dX1_init_15 (fun q2 H hP hD hS => ?_)
  have hP : va_P D vwCl [(h0, .inr (1, [.ref q1, .null, .null, .null, .null, .int 0, .int 0])), (q1, .inl (cI, 25, .inl (fun _ => 0))), (q2, .inl (cI, 25, .inl (fun _ => 0)))] H := hP
  have hD : va_D A [(h0, .inr (1, [.ref q1, .null, .null, .null, .null, .int 0, .int 0])), (q1, .inl (cI, 25, .inl (fun _ => 0))), (q2, .inl (cI, 25, .inl (fun _ => 0)))] := hD
  refine W.widen (k := 2) (n := 50) (by omega) (by omega) ?_
  refine va_putF (D := D) (ci := 1) (v := .ref q2) (ty := .array .int) (C := RX1) (T := TX1) (N := 7) hx hb hT0 a_inX1 tyX1 tyX1_ok nmX1 hown hK hP hD hS 0 rfl rfl 1 (by decide) (hT0 _ ct_f_1_15) (fun _ h9 => h9) rfl hin rfl (by decide +kernel) rfl rfl (Nat.le_of_ble_eq_true rfl) dX1_init_17 (fun H locs hP hD hS => ?_)
  have hP : va_P D vwCl [(h0, .inr (1, [.ref q1, .ref q2, .null, .null, .null, .int 0, .int 0])), (q1, .inl (cI, 25, .inl (fun _ => 0))), (q2, .inl (cI, 25, .inl (fun _ => 0)))] H := hP
  have hD : va_D A [(h0, .inr (1, [.ref q1, .ref q2, .null, .null, .null, .int 0, .int 0])), (q1, .inl (cI, 25, .inl (fun _ => 0))), (q2, .inl (cI, 25, .inl (fun _ => 0)))] := hD
  refine lv_aload_n hx hb dX1_init_20 rfl (lv_at hl 0 rfl) ?_
  refine lv_bipush (v := 25) hx hb dX1_init_21 (by decide) ?_
  refine ct_newa (D := D) (cI := cI) (cZ := cZ) (N := 25) hx hb (hT0 _ ct_aI) hK hP hD hS hA (by decide) (by decide) (Nat.le_of_ble_eq_true rfl) (show 2+1 ≤ 5 from Nat.le_of_ble_eq_true rfl) (show 50+25 ≤ 125 from Nat.le_of_ble_eq_true rfl) dX1_init_23 (fun q3 H hP hD hS => ?_)
  have hP : va_P D vwCl [(h0, .inr (1, [.ref q1, .ref q2, .null, .null, .null, .int 0, .int 0])), (q1, .inl (cI, 25, .inl (fun _ => 0))), (q2, .inl (cI, 25, .inl (fun _ => 0))), (q3, .inl (cI, 25, .inl (fun _ => 0)))] H := hP
  have hD : va_D A [(h0, .inr (1, [.ref q1, .ref q2, .null, .null, .null, .int 0, .int 0])), (q1, .inl (cI, 25, .inl (fun _ => 0))), (q2, .inl (cI, 25, .inl (fun _ => 0))), (q3, .inl (cI, 25, .inl (fun _ => 0)))] := hD
  refine W.widen (k := 3) (n := 75) (by omega) (by omega) ?_
  refine va_putF (D := D) (ci := 1) (v := .ref q3) (ty := .array .int) (C := RX1) (T := TX1) (N := 7) hx hb hT0 a_inX1 tyX1 tyX1_ok nmX1 hown hK hP hD hS 0 rfl rfl 2 (by decide) (hT0 _ ct_f_1_18) (fun _ h9 => h9) rfl hin rfl (by decide +kernel) rfl rfl (Nat.le_of_ble_eq_true rfl) dX1_init_25 (fun H locs hP hD hS => ?_)
  have hP : va_P D vwCl [(h0, .inr (1, [.ref q1, .ref q2, .ref q3, .null, .null, .int 0, .int 0])), (q1, .inl (cI, 25, .inl (fun _ => 0))), (q2, .inl (cI, 25, .inl (fun _ => 0))), (q3, .inl (cI, 25, .inl (fun _ => 0)))] H := hP
  have hD : va_D A [(h0, .inr (1, [.ref q1, .ref q2, .ref q3, .null, .null, .int 0, .int 0])), (q1, .inl (cI, 25, .inl (fun _ => 0))), (q2, .inl (cI, 25, .inl (fun _ => 0))), (q3, .inl (cI, 25, .inl (fun _ => 0)))] := hD
  refine lv_aload_n hx hb dX1_init_28 rfl (lv_at hl 0 rfl) ?_
  refine lv_bipush (v := 25) hx hb dX1_init_29 (by decide) ?_
  refine ct_newa (D := D) (cI := cI) (cZ := cZ) (N := 25) hx hb (hT0 _ ct_aI) hK hP hD hS hA (by decide) (by decide) (Nat.le_of_ble_eq_true rfl) (show 3+1 ≤ 5 from Nat.le_of_ble_eq_true rfl) (show 75+25 ≤ 125 from Nat.le_of_ble_eq_true rfl) dX1_init_31 (fun q4 H hP hD hS => ?_)
  have hP : va_P D vwCl [(h0, .inr (1, [.ref q1, .ref q2, .ref q3, .null, .null, .int 0, .int 0])), (q1, .inl (cI, 25, .inl (fun _ => 0))), (q2, .inl (cI, 25, .inl (fun _ => 0))), (q3, .inl (cI, 25, .inl (fun _ => 0))), (q4, .inl (cI, 25, .inl (fun _ => 0)))] H := hP
  have hD : va_D A [(h0, .inr (1, [.ref q1, .ref q2, .ref q3, .null, .null, .int 0, .int 0])), (q1, .inl (cI, 25, .inl (fun _ => 0))), (q2, .inl (cI, 25, .inl (fun _ => 0))), (q3, .inl (cI, 25, .inl (fun _ => 0))), (q4, .inl (cI, 25, .inl (fun _ => 0)))] := hD
  refine W.widen (k := 4) (n := 100) (by omega) (by omega) ?_
  refine va_putF (D := D) (ci := 1) (v := .ref q4) (ty := .array .int) (C := RX1) (T := TX1) (N := 7) hx hb hT0 a_inX1 tyX1 tyX1_ok nmX1 hown hK hP hD hS 0 rfl rfl 3 (by decide) (hT0 _ ct_f_1_21) (fun _ h9 => h9) rfl hin rfl (by decide +kernel) rfl rfl (Nat.le_of_ble_eq_true rfl) dX1_init_33 (fun H locs hP hD hS => ?_)
  have hP : va_P D vwCl [(h0, .inr (1, [.ref q1, .ref q2, .ref q3, .ref q4, .null, .int 0, .int 0])), (q1, .inl (cI, 25, .inl (fun _ => 0))), (q2, .inl (cI, 25, .inl (fun _ => 0))), (q3, .inl (cI, 25, .inl (fun _ => 0))), (q4, .inl (cI, 25, .inl (fun _ => 0)))] H := hP
  have hD : va_D A [(h0, .inr (1, [.ref q1, .ref q2, .ref q3, .ref q4, .null, .int 0, .int 0])), (q1, .inl (cI, 25, .inl (fun _ => 0))), (q2, .inl (cI, 25, .inl (fun _ => 0))), (q3, .inl (cI, 25, .inl (fun _ => 0))), (q4, .inl (cI, 25, .inl (fun _ => 0)))] := hD
  refine lv_aload_n hx hb dX1_init_36 rfl (lv_at hl 0 rfl) ?_
  refine lv_bipush (v := 25) hx hb dX1_init_37 (by decide) ?_
  refine ct_newa (D := D) (cI := cI) (cZ := cZ) (N := 25) hx hb (hT0 _ ct_aI) hK hP hD hS hA (by decide) (by decide) (Nat.le_of_ble_eq_true rfl) (show 4+1 ≤ 5 from Nat.le_of_ble_eq_true rfl) (show 100+25 ≤ 125 from Nat.le_of_ble_eq_true rfl) dX1_init_39 (fun q5 H hP hD hS => ?_)
  have hP : va_P D vwCl [(h0, .inr (1, [.ref q1, .ref q2, .ref q3, .ref q4, .null, .int 0, .int 0])), (q1, .inl (cI, 25, .inl (fun _ => 0))), (q2, .inl (cI, 25, .inl (fun _ => 0))), (q3, .inl (cI, 25, .inl (fun _ => 0))), (q4, .inl (cI, 25, .inl (fun _ => 0))), (q5, .inl (cI, 25, .inl (fun _ => 0)))] H := hP
  have hD : va_D A [(h0, .inr (1, [.ref q1, .ref q2, .ref q3, .ref q4, .null, .int 0, .int 0])), (q1, .inl (cI, 25, .inl (fun _ => 0))), (q2, .inl (cI, 25, .inl (fun _ => 0))), (q3, .inl (cI, 25, .inl (fun _ => 0))), (q4, .inl (cI, 25, .inl (fun _ => 0))), (q5, .inl (cI, 25, .inl (fun _ => 0)))] := hD
  refine W.widen (k := 5) (n := 125) (by omega) (by omega) ?_
  refine va_putF (D := D) (ci := 1) (v := .ref q5) (ty := .array .int) (C := RX1) (T := TX1) (N := 7) hx hb hT0 a_inX1 tyX1 tyX1_ok nmX1 hown hK hP hD hS 0 rfl rfl 4 (by decide) (hT0 _ ct_f_1_24) (fun _ h9 => h9) rfl hin rfl (by decide +kernel) rfl rfl (Nat.le_of_ble_eq_true rfl) dX1_init_41 (fun H locs hP hD hS => ?_)
  have hP : va_P D vwCl [(h0, .inr (1, [.ref q1, .ref q2, .ref q3, .ref q4, .ref q5, .int 0, .int 0])), (q1, .inl (cI, 25, .inl (fun _ => 0))), (q2, .inl (cI, 25, .inl (fun _ => 0))), (q3, .inl (cI, 25, .inl (fun _ => 0))), (q4, .inl (cI, 25, .inl (fun _ => 0))), (q5, .inl (cI, 25, .inl (fun _ => 0)))] H := hP
  have hD : va_D A [(h0, .inr (1, [.ref q1, .ref q2, .ref q3, .ref q4, .ref q5, .int 0, .int 0])), (q1, .inl (cI, 25, .inl (fun _ => 0))), (q2, .inl (cI, 25, .inl (fun _ => 0))), (q3, .inl (cI, 25, .inl (fun _ => 0))), (q4, .inl (cI, 25, .inl (fun _ => 0))), (q5, .inl (cI, 25, .inl (fun _ => 0)))] := hD
  refine lv_aload_n hx hb dX1_init_44 rfl (lv_at hl 0 rfl) ?_
  refine lv_iconst (v := 0) hx hb dX1_init_45 (by decide) ?_
  refine va_put (D := D) (ci := 1) (v := .int 0) (ty := .int) (C := RX1) (T := TX1) (N := 7) hx hb hT0 a_inX1 tyX1 tyX1_ok nmX1 hown hK hP hD hS 0 rfl rfl 5 (by decide) (hT0 _ ct_f_1_27) (fun _ h9 => h9) rfl (by decide +kernel) rfl rfl (Nat.le_of_ble_eq_true rfl) dX1_init_46 (fun H locs hP hD hS => ?_)
  have hP : va_P D vwCl [(h0, .inr (1, [.ref q1, .ref q2, .ref q3, .ref q4, .ref q5, .int 0, .int 0])), (q1, .inl (cI, 25, .inl (fun _ => 0))), (q2, .inl (cI, 25, .inl (fun _ => 0))), (q3, .inl (cI, 25, .inl (fun _ => 0))), (q4, .inl (cI, 25, .inl (fun _ => 0))), (q5, .inl (cI, 25, .inl (fun _ => 0)))] H := hP
  have hD : va_D A [(h0, .inr (1, [.ref q1, .ref q2, .ref q3, .ref q4, .ref q5, .int 0, .int 0])), (q1, .inl (cI, 25, .inl (fun _ => 0))), (q2, .inl (cI, 25, .inl (fun _ => 0))), (q3, .inl (cI, 25, .inl (fun _ => 0))), (q4, .inl (cI, 25, .inl (fun _ => 0))), (q5, .inl (cI, 25, .inl (fun _ => 0)))] := hD
  refine lv_aload_n hx hb dX1_init_49 rfl (lv_at hl 0 rfl) ?_
  refine lv_iconst (v := 0) hx hb dX1_init_50 (by decide) ?_
  refine va_put (D := D) (ci := 1) (v := .int 0) (ty := .int) (C := RX1) (T := TX1) (N := 7) hx hb hT0 a_inX1 tyX1 tyX1_ok nmX1 hown hK hP hD hS 0 rfl rfl 6 (by decide) (hT0 _ ct_f_1_31) (fun _ h9 => h9) rfl (by decide +kernel) rfl rfl (Nat.le_of_ble_eq_true rfl) dX1_init_51 (fun H locs hP hD hS => ?_)
  have hP : va_P D vwCl [(h0, .inr (1, [.ref q1, .ref q2, .ref q3, .ref q4, .ref q5, .int 0, .int 0])), (q1, .inl (cI, 25, .inl (fun _ => 0))), (q2, .inl (cI, 25, .inl (fun _ => 0))), (q3, .inl (cI, 25, .inl (fun _ => 0))), (q4, .inl (cI, 25, .inl (fun _ => 0))), (q5, .inl (cI, 25, .inl (fun _ => 0)))] H := hP
  have hD : va_D A [(h0, .inr (1, [.ref q1, .ref q2, .ref q3, .ref q4, .ref q5, .int 0, .int 0])), (q1, .inl (cI, 25, .inl (fun _ => 0))), (q2, .inl (cI, 25, .inl (fun _ => 0))), (q3, .inl (cI, 25, .inl (fun _ => 0))), (q4, .inl (cI, 25, .inl (fun _ => 0))), (q5, .inl (cI, 25, .inl (fun _ => 0)))] := hD
  exact W.vret hx hb hr (fun t ht hW => ⟨⟨(), rfl, trivial, q1, q2, q3, q4, q5, by rw [ht]; exact hP, va_K.moved hW.alike hK, hD⟩, hS.F ht⟩) hS.2.2 dX1_init_54
def ct_w0 : List Cond := .code yX0_init cX0_init 1 none :: a_T0
theorem ct_g0 : GoodIn a_T0 ct_w0 := ct_good _ ct_cd0
def ct_ws0 (cI cZ : ClassId) (h0 q1 q2 q3 q4 : Nat) : va_W := [(h0, .inr (0, [.ref q1, .ref q2, .ref q3, .ref q4, .int 0])), (q1, .inl (cI, 14, .inl (fun _ => 0))), (q2, .inl (cI, 14, .inl (fun _ => 0))), (q3, .inl (cI, 14, .inl (fun _ => 0))), (q4, .inl (cI, 14, .inl (fun _ => 0)))]
abbrev ct_B0 (D : va_G) (cI cZ : ClassId) (A : Nat → Prop) (h0 : Nat) (_ : Unit) (t : State) : Prop := ∃ (q1 q2 q3 q4 : Nat), va_P D vwCl [(h0, .inr (0, [.ref q1, .ref q2, .ref q3, .ref q4, .int 0])), (q1, .inl (cI, 14, .inl (fun _ => 0))), (q2, .inl (cI, 14, .inl (fun _ => 0))), (q3, .inl (cI, 14, .inl (fun _ => 0))), (q4, .inl (cI, 14, .inl (fun _ => 0)))] t.heap ∧ va_K D vwCl (ct_ty cI cZ) t ∧ va_D A [(h0, .inr (0, [.ref q1, .ref q2, .ref q3, .ref q4, .int 0])), (q1, .inl (cI, 14, .inl (fun _ => 0))), (q2, .inl (cI, 14, .inl (fun _ => 0))), (q3, .inl (cI, 14, .inl (fun _ => 0))), (q4, .inl (cI, 14, .inl (fun _ => 0)))]
set_option maxHeartbeats 8000000 in
set_option maxRecDepth 100000 in
theorem ct_X0 (l : Launch) (D : va_G) (cI cZ : ClassId) (h0 : Nat) (sz : Nat) : Met l yX0_init ct_w0 ({ frames := 1, cells := 4, slots := 56, locals := 12 }) (va_Pc [.ref h0] (fun U => U.heap.size = sz ∧ va_P D vwCl [(h0, .inr (0, [.null, .null, .null, .null, .int 0]))] U.heap ∧ va_K D vwCl (ct_ty cI cZ) U ∧ va_D (fun _ => True) [(h0, .inr (0, [.null, .null, .null, .null, .int 0]))])) (va_Qv (fun _ : Unit => True) (ct_B0 D cI cZ (va_A [(h0, .inr (0, [.null, .null, .null, .null, .int 0]))] sz) h0) (va_A [(h0, .inr (0, [.null, .null, .null, .null, .int 0]))] sz)) 4 56 (va_A [(h0, .inr (0, [.null, .null, .null, .null, .int 0]))] sz) := by
  refine Met.ofW (cc := cX0_init) (maxL := 1) (ret := none) (by decide) rfl ?_
  intro p e s m args below meth c s₁ B hml hv
  obtain ⟨rfl, hsz, hP, hK, hD0⟩ := hv
  have hx := B.exec
  have hb := B.bytes
  have hr := B.returns
  have hts := atoms_spec (ws := ct_w0) B.pre
  have hT0 : ∀ w ∈ a_T0, w.before #[.ref h0] s = true := fun w h => hts w (List.mem_cons_of_mem _ h)
  have hown : s.vm.findClass RX0 = some m.cls := findClass_of_methodNamed B.named
  have hlocks := B.notSynchronized
  have hin : meth.name = "<init>" := (name_of_methodNamed B.named B.method).1
  subst hsz
  have hD := hD0.self (sz := s.heap.size)
  generalize hAe : va_A [(h0, .inr (0, [.null, .null, .null, .null, .int 0]))] s.heap.size = A at hD ⊢
  have hA : ∀ q : Nat, s.heap.size ≤ q → A q := fun q h => by rw [← hAe]; exact Or.inr h
  have hS : va_S A s.heap s.heap [] := va_S.rf
  have hP : va_P D vwCl [(h0, .inr (0, [.null, .null, .null, .null, .int 0]))] s.heap := hP
  have hl := lv_entry ([.ref h0]) (n := 1) (Nat.le_of_ble_eq_true rfl)
  rw [lg_entry_eq]
  generalize (lg_sl ([.ref h0]) ++ List.replicate (1 - (lg_sl ([.ref h0])).length) Slot.unset).toArray = ls at hl ⊢
  have hl : lv_has ls 1 [(0, .ref h0)] := hl
  refine lv_aload_n hx hb dX0_init_0 rfl (lv_at hl 0 rfl) ?_
  refine W.objInit hx hb hown (hT0 _ ct_ol0) (hT0 _ ct_oi) (hT0 _ ct_oc) rfl (by rw [hml]; exact hl.1) rfl dX0_init_1 (Nat.le_of_ble_eq_true rfl) (Nat.le_of_ble_eq_true rfl) ?_
  refine W.eq (g2 := F0 m 4 ls []) rfl ?_
  refine lv_aload_n hx hb dX0_init_4 rfl (lv_at hl 0 rfl) ?_
  refine lv_bipush (v := 14) hx hb dX0_init_5 (by decide) ?_
  refine ct_newa (D := D) (cI := cI) (cZ := cZ) (N := 14) hx hb (hT0 _ ct_aI) hK hP hD hS hA (by decide) (by decide) (Nat.le_of_ble_eq_true rfl) (show 0+1 ≤ 4 from Nat.le_of_ble_eq_true rfl) (show 0+14 ≤ 56 from Nat.le_of_ble_eq_true rfl) dX0_init_7 (fun q1 H hP hD hS => ?_)
  have hP : va_P D vwCl [(h0, .inr (0, [.null, .null, .null, .null, .int 0])), (q1, .inl (cI, 14, .inl (fun _ => 0)))] H := hP
  have hD : va_D A [(h0, .inr (0, [.null, .null, .null, .null, .int 0])), (q1, .inl (cI, 14, .inl (fun _ => 0)))] := hD
  refine W.widen (k := 1) (n := 14) (by omega) (by omega) ?_
  refine va_putF (D := D) (ci := 0) (v := .ref q1) (ty := .array .int) (C := RX0) (T := TX0) (N := 5) hx hb hT0 a_inX0 tyX0 tyX0_ok nmX0 hown hK hP hD hS 0 rfl rfl 0 (by decide) (hT0 _ ct_f_0_9) (fun _ h9 => h9) rfl hin rfl (by decide +kernel) rfl rfl (Nat.le_of_ble_eq_true rfl) dX0_init_9 (fun H locs hP hD hS => ?_)
  have hP : va_P D vwCl [(h0, .inr (0, [.ref q1, .null, .null, .null, .int 0])), (q1, .inl (cI, 14, .inl (fun _ => 0)))] H := hP
  have hD : va_D A [(h0, .inr (0, [.ref q1, .null, .null, .null, .int 0])), (q1, .inl (cI, 14, .inl (fun _ => 0)))] := hD
  refine lv_aload_n hx hb dX0_init_12 rfl (lv_at hl 0 rfl) ?_
  refine lv_bipush (v := 14) hx hb dX0_init_13 (by decide) ?_
  refine ct_newa (D := D) (cI := cI) (cZ := cZ) (N := 14) hx hb (hT0 _ ct_aI) hK hP hD hS hA (by decide) (by decide) (Nat.le_of_ble_eq_true rfl) (show 1+1 ≤ 4 from Nat.le_of_ble_eq_true rfl) (show 14+14 ≤ 56 from Nat.le_of_ble_eq_true rfl) dX0_init_15 (fun q2 H hP hD hS => ?_)
  have hP : va_P D vwCl [(h0, .inr (0, [.ref q1, .null, .null, .null, .int 0])), (q1, .inl (cI, 14, .inl (fun _ => 0))), (q2, .inl (cI, 14, .inl (fun _ => 0)))] H := hP
  have hD : va_D A [(h0, .inr (0, [.ref q1, .null, .null, .null, .int 0])), (q1, .inl (cI, 14, .inl (fun _ => 0))), (q2, .inl (cI, 14, .inl (fun _ => 0)))] := hD
  refine W.widen (k := 2) (n := 28) (by omega) (by omega) ?_
  refine va_putF (D := D) (ci := 0) (v := .ref q2) (ty := .array .int) (C := RX0) (T := TX0) (N := 5) hx hb hT0 a_inX0 tyX0 tyX0_ok nmX0 hown hK hP hD hS 0 rfl rfl 1 (by decide) (hT0 _ ct_f_0_15) (fun _ h9 => h9) rfl hin rfl (by decide +kernel) rfl rfl (Nat.le_of_ble_eq_true rfl) dX0_init_17 (fun H locs hP hD hS => ?_)
  have hP : va_P D vwCl [(h0, .inr (0, [.ref q1, .ref q2, .null, .null, .int 0])), (q1, .inl (cI, 14, .inl (fun _ => 0))), (q2, .inl (cI, 14, .inl (fun _ => 0)))] H := hP
  have hD : va_D A [(h0, .inr (0, [.ref q1, .ref q2, .null, .null, .int 0])), (q1, .inl (cI, 14, .inl (fun _ => 0))), (q2, .inl (cI, 14, .inl (fun _ => 0)))] := hD
  refine lv_aload_n hx hb dX0_init_20 rfl (lv_at hl 0 rfl) ?_
  refine lv_bipush (v := 14) hx hb dX0_init_21 (by decide) ?_
  refine ct_newa (D := D) (cI := cI) (cZ := cZ) (N := 14) hx hb (hT0 _ ct_aI) hK hP hD hS hA (by decide) (by decide) (Nat.le_of_ble_eq_true rfl) (show 2+1 ≤ 4 from Nat.le_of_ble_eq_true rfl) (show 28+14 ≤ 56 from Nat.le_of_ble_eq_true rfl) dX0_init_23 (fun q3 H hP hD hS => ?_)
  have hP : va_P D vwCl [(h0, .inr (0, [.ref q1, .ref q2, .null, .null, .int 0])), (q1, .inl (cI, 14, .inl (fun _ => 0))), (q2, .inl (cI, 14, .inl (fun _ => 0))), (q3, .inl (cI, 14, .inl (fun _ => 0)))] H := hP
  have hD : va_D A [(h0, .inr (0, [.ref q1, .ref q2, .null, .null, .int 0])), (q1, .inl (cI, 14, .inl (fun _ => 0))), (q2, .inl (cI, 14, .inl (fun _ => 0))), (q3, .inl (cI, 14, .inl (fun _ => 0)))] := hD
  refine W.widen (k := 3) (n := 42) (by omega) (by omega) ?_
  refine va_putF (D := D) (ci := 0) (v := .ref q3) (ty := .array .int) (C := RX0) (T := TX0) (N := 5) hx hb hT0 a_inX0 tyX0 tyX0_ok nmX0 hown hK hP hD hS 0 rfl rfl 2 (by decide) (hT0 _ ct_f_0_18) (fun _ h9 => h9) rfl hin rfl (by decide +kernel) rfl rfl (Nat.le_of_ble_eq_true rfl) dX0_init_25 (fun H locs hP hD hS => ?_)
  have hP : va_P D vwCl [(h0, .inr (0, [.ref q1, .ref q2, .ref q3, .null, .int 0])), (q1, .inl (cI, 14, .inl (fun _ => 0))), (q2, .inl (cI, 14, .inl (fun _ => 0))), (q3, .inl (cI, 14, .inl (fun _ => 0)))] H := hP
  have hD : va_D A [(h0, .inr (0, [.ref q1, .ref q2, .ref q3, .null, .int 0])), (q1, .inl (cI, 14, .inl (fun _ => 0))), (q2, .inl (cI, 14, .inl (fun _ => 0))), (q3, .inl (cI, 14, .inl (fun _ => 0)))] := hD
  refine lv_aload_n hx hb dX0_init_28 rfl (lv_at hl 0 rfl) ?_
  refine lv_bipush (v := 14) hx hb dX0_init_29 (by decide) ?_
  refine ct_newa (D := D) (cI := cI) (cZ := cZ) (N := 14) hx hb (hT0 _ ct_aI) hK hP hD hS hA (by decide) (by decide) (Nat.le_of_ble_eq_true rfl) (show 3+1 ≤ 4 from Nat.le_of_ble_eq_true rfl) (show 42+14 ≤ 56 from Nat.le_of_ble_eq_true rfl) dX0_init_31 (fun q4 H hP hD hS => ?_)
  have hP : va_P D vwCl [(h0, .inr (0, [.ref q1, .ref q2, .ref q3, .null, .int 0])), (q1, .inl (cI, 14, .inl (fun _ => 0))), (q2, .inl (cI, 14, .inl (fun _ => 0))), (q3, .inl (cI, 14, .inl (fun _ => 0))), (q4, .inl (cI, 14, .inl (fun _ => 0)))] H := hP
  have hD : va_D A [(h0, .inr (0, [.ref q1, .ref q2, .ref q3, .null, .int 0])), (q1, .inl (cI, 14, .inl (fun _ => 0))), (q2, .inl (cI, 14, .inl (fun _ => 0))), (q3, .inl (cI, 14, .inl (fun _ => 0))), (q4, .inl (cI, 14, .inl (fun _ => 0)))] := hD
  refine W.widen (k := 4) (n := 56) (by omega) (by omega) ?_
  refine va_putF (D := D) (ci := 0) (v := .ref q4) (ty := .array .int) (C := RX0) (T := TX0) (N := 5) hx hb hT0 a_inX0 tyX0 tyX0_ok nmX0 hown hK hP hD hS 0 rfl rfl 3 (by decide) (hT0 _ ct_f_0_21) (fun _ h9 => h9) rfl hin rfl (by decide +kernel) rfl rfl (Nat.le_of_ble_eq_true rfl) dX0_init_33 (fun H locs hP hD hS => ?_)
  have hP : va_P D vwCl [(h0, .inr (0, [.ref q1, .ref q2, .ref q3, .ref q4, .int 0])), (q1, .inl (cI, 14, .inl (fun _ => 0))), (q2, .inl (cI, 14, .inl (fun _ => 0))), (q3, .inl (cI, 14, .inl (fun _ => 0))), (q4, .inl (cI, 14, .inl (fun _ => 0)))] H := hP
  have hD : va_D A [(h0, .inr (0, [.ref q1, .ref q2, .ref q3, .ref q4, .int 0])), (q1, .inl (cI, 14, .inl (fun _ => 0))), (q2, .inl (cI, 14, .inl (fun _ => 0))), (q3, .inl (cI, 14, .inl (fun _ => 0))), (q4, .inl (cI, 14, .inl (fun _ => 0)))] := hD
  refine lv_aload_n hx hb dX0_init_36 rfl (lv_at hl 0 rfl) ?_
  refine lv_iconst (v := 0) hx hb dX0_init_37 (by decide) ?_
  refine va_put (D := D) (ci := 0) (v := .int 0) (ty := .int) (C := RX0) (T := TX0) (N := 5) hx hb hT0 a_inX0 tyX0 tyX0_ok nmX0 hown hK hP hD hS 0 rfl rfl 4 (by decide) (hT0 _ ct_f_0_24) (fun _ h9 => h9) rfl (by decide +kernel) rfl rfl (Nat.le_of_ble_eq_true rfl) dX0_init_38 (fun H locs hP hD hS => ?_)
  have hP : va_P D vwCl [(h0, .inr (0, [.ref q1, .ref q2, .ref q3, .ref q4, .int 0])), (q1, .inl (cI, 14, .inl (fun _ => 0))), (q2, .inl (cI, 14, .inl (fun _ => 0))), (q3, .inl (cI, 14, .inl (fun _ => 0))), (q4, .inl (cI, 14, .inl (fun _ => 0)))] H := hP
  have hD : va_D A [(h0, .inr (0, [.ref q1, .ref q2, .ref q3, .ref q4, .int 0])), (q1, .inl (cI, 14, .inl (fun _ => 0))), (q2, .inl (cI, 14, .inl (fun _ => 0))), (q3, .inl (cI, 14, .inl (fun _ => 0))), (q4, .inl (cI, 14, .inl (fun _ => 0)))] := hD
  exact W.vret hx hb hr (fun t ht hW => ⟨⟨(), rfl, trivial, q1, q2, q3, q4, by rw [ht]; exact hP, va_K.moved hW.alike hK, hD⟩, hS.F ht⟩) hS.2.2 dX0_init_41
def ct_w2 : List Cond := .code yX2_init cX2_init 1 none :: a_T0
theorem ct_g2 : GoodIn a_T0 ct_w2 := ct_good _ ct_cd2
def ct_ws2 (cI cZ : ClassId) (h0 q1 q2 : Nat) : va_W := [(h0, .inr (2, [.ref q1, .ref q2, .int 0])), (q1, .inl (cI, 6, .inl (fun _ => 0))), (q2, .inl (cI, 6, .inl (fun _ => 0)))]
abbrev ct_B2 (D : va_G) (cI cZ : ClassId) (A : Nat → Prop) (h0 : Nat) (_ : Unit) (t : State) : Prop := ∃ (q1 q2 : Nat), va_P D vwCl [(h0, .inr (2, [.ref q1, .ref q2, .int 0])), (q1, .inl (cI, 6, .inl (fun _ => 0))), (q2, .inl (cI, 6, .inl (fun _ => 0)))] t.heap ∧ va_K D vwCl (ct_ty cI cZ) t ∧ va_D A [(h0, .inr (2, [.ref q1, .ref q2, .int 0])), (q1, .inl (cI, 6, .inl (fun _ => 0))), (q2, .inl (cI, 6, .inl (fun _ => 0)))]
set_option maxHeartbeats 8000000 in
set_option maxRecDepth 100000 in
theorem ct_X2 (l : Launch) (D : va_G) (cI cZ : ClassId) (h0 : Nat) (sz : Nat) : Met l yX2_init ct_w2 ({ frames := 1, cells := 2, slots := 12, locals := 12 }) (va_Pc [.ref h0] (fun U => U.heap.size = sz ∧ va_P D vwCl [(h0, .inr (2, [.null, .null, .int 0]))] U.heap ∧ va_K D vwCl (ct_ty cI cZ) U ∧ va_D (fun _ => True) [(h0, .inr (2, [.null, .null, .int 0]))])) (va_Qv (fun _ : Unit => True) (ct_B2 D cI cZ (va_A [(h0, .inr (2, [.null, .null, .int 0]))] sz) h0) (va_A [(h0, .inr (2, [.null, .null, .int 0]))] sz)) 2 12 (va_A [(h0, .inr (2, [.null, .null, .int 0]))] sz) := by
  refine Met.ofW (cc := cX2_init) (maxL := 1) (ret := none) (by decide) rfl ?_
  intro p e s m args below meth c s₁ B hml hv
  obtain ⟨rfl, hsz, hP, hK, hD0⟩ := hv
  have hx := B.exec
  have hb := B.bytes
  have hr := B.returns
  have hts := atoms_spec (ws := ct_w2) B.pre
  have hT0 : ∀ w ∈ a_T0, w.before #[.ref h0] s = true := fun w h => hts w (List.mem_cons_of_mem _ h)
  have hown : s.vm.findClass RX2 = some m.cls := findClass_of_methodNamed B.named
  have hlocks := B.notSynchronized
  have hin : meth.name = "<init>" := (name_of_methodNamed B.named B.method).1
  subst hsz
  have hD := hD0.self (sz := s.heap.size)
  generalize hAe : va_A [(h0, .inr (2, [.null, .null, .int 0]))] s.heap.size = A at hD ⊢
  have hA : ∀ q : Nat, s.heap.size ≤ q → A q := fun q h => by rw [← hAe]; exact Or.inr h
  have hS : va_S A s.heap s.heap [] := va_S.rf
  have hP : va_P D vwCl [(h0, .inr (2, [.null, .null, .int 0]))] s.heap := hP
  have hl := lv_entry ([.ref h0]) (n := 1) (Nat.le_of_ble_eq_true rfl)
  rw [lg_entry_eq]
  generalize (lg_sl ([.ref h0]) ++ List.replicate (1 - (lg_sl ([.ref h0])).length) Slot.unset).toArray = ls at hl ⊢
  have hl : lv_has ls 1 [(0, .ref h0)] := hl
  refine lv_aload_n hx hb dX2_init_0 rfl (lv_at hl 0 rfl) ?_
  refine W.objInit hx hb hown (hT0 _ ct_ol2) (hT0 _ ct_oi) (hT0 _ ct_oc) rfl (by rw [hml]; exact hl.1) rfl dX2_init_1 (Nat.le_of_ble_eq_true rfl) (Nat.le_of_ble_eq_true rfl) ?_
  refine W.eq (g2 := F0 m 4 ls []) rfl ?_
  refine lv_aload_n hx hb dX2_init_4 rfl (lv_at hl 0 rfl) ?_
  refine lv_bipush (v := 6) hx hb dX2_init_5 (by decide) ?_
  refine ct_newa (D := D) (cI := cI) (cZ := cZ) (N := 6) hx hb (hT0 _ ct_aI) hK hP hD hS hA (by decide) (by decide) (Nat.le_of_ble_eq_true rfl) (show 0+1 ≤ 2 from Nat.le_of_ble_eq_true rfl) (show 0+6 ≤ 12 from Nat.le_of_ble_eq_true rfl) dX2_init_7 (fun q1 H hP hD hS => ?_)
  have hP : va_P D vwCl [(h0, .inr (2, [.null, .null, .int 0])), (q1, .inl (cI, 6, .inl (fun _ => 0)))] H := hP
  have hD : va_D A [(h0, .inr (2, [.null, .null, .int 0])), (q1, .inl (cI, 6, .inl (fun _ => 0)))] := hD
  refine W.widen (k := 1) (n := 6) (by omega) (by omega) ?_
  refine va_putF (D := D) (ci := 2) (v := .ref q1) (ty := .array .int) (C := RX2) (T := TX2) (N := 3) hx hb hT0 a_inX2 tyX2 tyX2_ok nmX2 hown hK hP hD hS 0 rfl rfl 0 (by decide) (hT0 _ ct_f_2_9) (fun _ h9 => h9) rfl hin rfl (by decide +kernel) rfl rfl (Nat.le_of_ble_eq_true rfl) dX2_init_9 (fun H locs hP hD hS => ?_)
  have hP : va_P D vwCl [(h0, .inr (2, [.ref q1, .null, .int 0])), (q1, .inl (cI, 6, .inl (fun _ => 0)))] H := hP
  have hD : va_D A [(h0, .inr (2, [.ref q1, .null, .int 0])), (q1, .inl (cI, 6, .inl (fun _ => 0)))] := hD
  refine lv_aload_n hx hb dX2_init_12 rfl (lv_at hl 0 rfl) ?_
  refine lv_bipush (v := 6) hx hb dX2_init_13 (by decide) ?_
  refine ct_newa (D := D) (cI := cI) (cZ := cZ) (N := 6) hx hb (hT0 _ ct_aI) hK hP hD hS hA (by decide) (by decide) (Nat.le_of_ble_eq_true rfl) (show 1+1 ≤ 2 from Nat.le_of_ble_eq_true rfl) (show 6+6 ≤ 12 from Nat.le_of_ble_eq_true rfl) dX2_init_15 (fun q2 H hP hD hS => ?_)
  have hP : va_P D vwCl [(h0, .inr (2, [.ref q1, .null, .int 0])), (q1, .inl (cI, 6, .inl (fun _ => 0))), (q2, .inl (cI, 6, .inl (fun _ => 0)))] H := hP
  have hD : va_D A [(h0, .inr (2, [.ref q1, .null, .int 0])), (q1, .inl (cI, 6, .inl (fun _ => 0))), (q2, .inl (cI, 6, .inl (fun _ => 0)))] := hD
  refine W.widen (k := 2) (n := 12) (by omega) (by omega) ?_
  refine va_putF (D := D) (ci := 2) (v := .ref q2) (ty := .array .int) (C := RX2) (T := TX2) (N := 3) hx hb hT0 a_inX2 tyX2 tyX2_ok nmX2 hown hK hP hD hS 0 rfl rfl 1 (by decide) (hT0 _ ct_f_2_15) (fun _ h9 => h9) rfl hin rfl (by decide +kernel) rfl rfl (Nat.le_of_ble_eq_true rfl) dX2_init_17 (fun H locs hP hD hS => ?_)
  have hP : va_P D vwCl [(h0, .inr (2, [.ref q1, .ref q2, .int 0])), (q1, .inl (cI, 6, .inl (fun _ => 0))), (q2, .inl (cI, 6, .inl (fun _ => 0)))] H := hP
  have hD : va_D A [(h0, .inr (2, [.ref q1, .ref q2, .int 0])), (q1, .inl (cI, 6, .inl (fun _ => 0))), (q2, .inl (cI, 6, .inl (fun _ => 0)))] := hD
  refine lv_aload_n hx hb dX2_init_20 rfl (lv_at hl 0 rfl) ?_
  refine lv_iconst (v := 0) hx hb dX2_init_21 (by decide) ?_
  refine va_put (D := D) (ci := 2) (v := .int 0) (ty := .int) (C := RX2) (T := TX2) (N := 3) hx hb hT0 a_inX2 tyX2 tyX2_ok nmX2 hown hK hP hD hS 0 rfl rfl 2 (by decide) (hT0 _ ct_f_2_18) (fun _ h9 => h9) rfl (by decide +kernel) rfl rfl (Nat.le_of_ble_eq_true rfl) dX2_init_22 (fun H locs hP hD hS => ?_)
  have hP : va_P D vwCl [(h0, .inr (2, [.ref q1, .ref q2, .int 0])), (q1, .inl (cI, 6, .inl (fun _ => 0))), (q2, .inl (cI, 6, .inl (fun _ => 0)))] H := hP
  have hD : va_D A [(h0, .inr (2, [.ref q1, .ref q2, .int 0])), (q1, .inl (cI, 6, .inl (fun _ => 0))), (q2, .inl (cI, 6, .inl (fun _ => 0)))] := hD
  exact W.vret hx hb hr (fun t ht hW => ⟨⟨(), rfl, trivial, q1, q2, by rw [ht]; exact hP, va_K.moved hW.alike hK, hD⟩, hS.F ht⟩) hS.2.2 dX2_init_25
-- openRule
def ct_z (f : Nat → Int32) : Nat → Nat → Int32
  | 0 => f
  | n + 1 => upd (ct_z f n) (52 + n) 0
def ct_or (f : Nat → Int32) : Nat → Int32 := upd (upd (ct_z f 15) 53 1) 54 1
theorem ct_gO : GoodIn a_T0 (a_wm mX6_openRule) := a_good _ a_ok_X6_openRule
abbrev ct_BO (D : va_G) (cI cZ : ClassId) (A : Nat → Prop) (h0 : Nat) (f : Nat → Int32) (_ : Unit) (t : State) : Prop := va_P D vwCl [(h0, .inl (cI, 67, .inl (ct_or f)))] t.heap ∧ va_K D vwCl (ct_ty cI cZ) t ∧ va_D A [(h0, .inl (cI, 67, .inl (ct_or f)))]
set_option maxHeartbeats 8000000 in
set_option maxRecDepth 100000 in
theorem ct_openRule (l : Launch) (D : va_G) (cI cZ : ClassId) (h0 : Nat) (sz : Nat) (f : Nat → Int32) : Met l yX6_openRule (a_wm mX6_openRule) ({ frames := 0, cells := 0, slots := 0, locals := 0 }) (va_Pc [.ref h0] (fun U => U.heap.size = sz ∧ va_P D vwCl [(h0, .inl (cI, 67, .inl f))] U.heap ∧ va_K D vwCl (ct_ty cI cZ) U ∧ va_D (fun _ => True) [(h0, .inl (cI, 67, .inl f))])) (va_Qv (fun _ : Unit => True) (ct_BO D cI cZ (va_A [(h0, .inl (cI, 67, .inl f))] sz) h0 f) (va_A [(h0, .inl (cI, 67, .inl f))] sz)) 0 0 (va_A [(h0, .inl (cI, 67, .inl f))] sz) := by
  refine Met.ofW (cc := cX6_openRule) (maxL := 2) (ret := none) (by decide) rfl ?_
  intro p e s m args below meth c s₁ B hml hv
  obtain ⟨rfl, hsz, hP, hK, hD0⟩ := hv
  have hx := B.exec
  have hb := B.bytes
  have hr := B.returns
  have hlocks := B.notSynchronized
  subst hsz
  have hD := hD0.self (sz := s.heap.size)
  generalize hAe : va_A [(h0, .inl (cI, 67, .inl f))] s.heap.size = A at hD ⊢
  have hA : ∀ q : Nat, s.heap.size ≤ q → A q := fun q h => by rw [← hAe]; exact Or.inr h
  have hS : va_S A s.heap s.heap [] := va_S.rf
  have hP : va_P D vwCl [(h0, .inl (cI, 67, .inl f))] s.heap := hP
  have hl := lv_entry ([.ref h0]) (n := 2) (Nat.le_of_ble_eq_true rfl)
  rw [lg_entry_eq]
  generalize (lg_sl ([.ref h0]) ++ List.replicate (2 - (lg_sl ([.ref h0])).length) Slot.unset).toArray = ls at hl ⊢
  have hl : lv_has ls 2 [(0, .ref h0)] := hl
  refine lv_bipush (v := 52) hx hb dX6_openRule_0 (by decide) ?_
  refine lv_istore_n (lv' := [(1, .int 52), (0, .ref h0)]) hx hb dX6_openRule_2 rfl hl (by decide) rfl (fun ls hl => ?_)
  have loop : ∀ (n i : Nat) (x : Int32), i + n = 15 → x = nI (52 + i) → ∀ (H : Heap) (locs : List Loc) (ls : Array Slot), va_P D vwCl [(h0, .inl (cI, 67, .inl (ct_z f i)))] H → va_D A [(h0, .inl (cI, 67, .inl (ct_z f i)))] → va_S A s.heap H locs → lv_has ls 2 [(1, .int x), (0, .ref h0)] → W p l e (headSpec (a_wm mX6_openRule) { frames := 0, cells := 0, slots := 0, locals := 0 }).room s m [Value.ref h0].toArray below meth c H locs 0 0 (MQ below (va_Qv (fun _ : Unit => True) (ct_BO D cI cZ A h0 f) A) [Value.ref h0].toArray s 0 0 A) (F0 m 3 ls []) := by
    intro n
    induction n with
    | zero =>
      intro i x hi ex H locs ls hP hD hS hl
      obtain rfl : i = 15 := by omega
      refine lv_iload_n hx hb dX6_openRule_3 rfl (lv_at hl 0 rfl) ?_
      refine lv_bipush (v := 67) hx hb dX6_openRule_4 (by decide) ?_
      refine lv_icmp_ge (tgt := 19) hx hb dX6_openRule_6 (by decide) (fun _ => ?_) (fun c1 => absurd (by rw [ex]; decide) c1)
      refine lv_aload_n hx hb dX6_openRule_19 rfl (lv_at hl 1 rfl) ?_
      refine lv_bipush (v := 53) hx hb dX6_openRule_20 (by decide) ?_
      refine lv_iconst (v := 1) hx hb dX6_openRule_22 (by decide) ?_
      refine va_iast hx hb hK hP hD hS 0 0 rfl rfl (i := 53) (x := 1) (show ¬ ((53 : Int32) < 0 ∨ 67 ≤ (53 : Int32).toNatClampNeg) by decide) dX6_openRule_23 (fun H locs hP hD hS => ?_)
      have hP : va_P D vwCl [(h0, .inl (cI, 67, .inl (upd (ct_z f 15) 53 1)))] H := hP
      have hD : va_D A [(h0, .inl (cI, 67, .inl (upd (ct_z f 15) 53 1)))] := hD
      refine lv_aload_n hx hb dX6_openRule_24 rfl (lv_at hl 1 rfl) ?_
      refine lv_bipush (v := 54) hx hb dX6_openRule_25 (by decide) ?_
      refine lv_iconst (v := 1) hx hb dX6_openRule_27 (by decide) ?_
      refine va_iast hx hb hK hP hD hS 0 0 rfl rfl (i := 54) (x := 1) (show ¬ ((54 : Int32) < 0 ∨ 67 ≤ (54 : Int32).toNatClampNeg) by decide) dX6_openRule_28 (fun H locs hP hD hS => ?_)
      have hP : va_P D vwCl [(h0, .inl (cI, 67, .inl (ct_or f)))] H := hP
      have hD : va_D A [(h0, .inl (cI, 67, .inl (ct_or f)))] := hD
      exact W.vret hx hb hr (fun t ht hW => ⟨⟨(), rfl, trivial, by rw [ht]; exact hP, va_K.moved hW.alike hK, hD⟩, hS.F ht⟩) hS.2.2 dX6_openRule_29
    | succ n ih =>
      intro i x hi ex H locs ls hP hD hS hl
      refine lv_iload_n hx hb dX6_openRule_3 rfl (lv_at hl 0 rfl) ?_
      refine lv_bipush (v := 67) hx hb dX6_openRule_4 (by decide) ?_
      refine lv_icmp_ge (tgt := 19) hx hb dX6_openRule_6 (by decide) (fun c1 => absurd c1 (by rw [ex]; exact nI_ge (b := 67) (show 52 + i < 67 by omega) (by omega))) (fun _ => ?_)
      refine lv_aload_n hx hb dX6_openRule_9 rfl (lv_at hl 1 rfl) ?_
      refine lv_iload_n hx hb dX6_openRule_10 rfl (lv_at hl 0 rfl) ?_
      refine lv_iconst (v := 0) hx hb dX6_openRule_11 (by decide) ?_
      refine va_iast hx hb hK hP hD hS 0 0 rfl rfl (i := x) (x := 0) (by rw [ex]; exact vp_in_nI (show 52 + i < 67 by omega) (by omega)) dX6_openRule_12 (fun H locs hP hD hS => ?_)
      have ec : x.toNatClampNeg = 52 + i := by rw [ex]; exact nI_clamp (by omega)
      rw [ec] at hP hD
      have hP : va_P D vwCl [(h0, .inl (cI, 67, .inl (ct_z f (i + 1))))] H := hP
      have hD : va_D A [(h0, .inl (cI, 67, .inl (ct_z f (i + 1))))] := hD
      obtain ⟨y, ey⟩ : ∃ y : Int32, y = x + 1 := ⟨_, rfl⟩
      refine lv_iinc (v := y) (lv' := [(1, .int y), (0, .ref h0)]) hx hb dX6_openRule_13 hl (k := 0) rfl (by rw [ey]; rfl) (by decide) rfl (fun ls hl => ?_)
      refine lv_goto (tgt := 3) hx hb dX6_openRule_16 (by decide) ?_
      exact ih (i + 1) y (by omega) (by rw [ey, ex]; exact nI_1 (52 + i)) _ _ _ hP hD hS hl
  exact loop 15 0 52 (by omega) (by decide) _ _ _ hP hD hS hl
