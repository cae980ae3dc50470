/-! THE CLAIM OUT OF ONE WALK OF THE LAW'S BODY. Your part is whole_start (and what it stands on); all else here is the same for every law, but numbers. -/
def R_law : String := "LeafInkLaw"
def lw_P (b : Addr) (xs : List Int32) (args : Array Value) (s : State) : Prop := args = #[.ref b] ∧ s.IntsAt b xs ∧ xs.length ≤ 2560 ∧ (Jvm.Cond.and given_1 narrow_1).before args s = true
def lw_Q (_ : Array Value) (s : State) (o : Outcome) (t : State) : Prop := o = .returned (some (.int 1)) ∧ Framed s o t [] 45 1986
def lw_Z (below : List Frame) (a : Array Value) (s : State) : State → Prop := fun t => ∃ o, t.status = .running ∧ Ended t below o ∧ lw_Q a s o t
/-- the law's own end, with 1 on the stack, nothing written that was there before, its room as the claim has it -/
theorem lw_ret {p : Program} {l : Launch} {e : Env} {s : State} {m : MethodId} {below : List Frame} {meth : Method} {c : Code} {b : Nat} (hx : p.tables.exec = Jvm.exec) (hb : c.code = code) (hr : meth.sig.returnType = ret) (hlocks : meth.locks = false) {pc : Nat} {H : Heap} {ls : Array Slot} (hdg : decode code pc = .ok (.ireturn, 1)) : W p l e room_1 s m #[Value.ref b] below meth c H [] 45 1986 (lw_Z below #[Value.ref b] s) (F0 m pc ls [.int 1]) := by
  intro T hT X
  obtain ⟨fs, hret, hrun, hended, hW, hframe⟩ := X.leave (v := some (.int 1)) (hlocks := hlocks) (fun h => by rw [hr] at h; cases h)
  have hmeth' : T.vm.method? m = some meth := X.method'
  refine ⟨T.setFrames fs, ?_, .returned (some (.int 1)), hrun, hended, rfl, ⟨_, rfl⟩, hW, hframe⟩
  jvm_step X.here [X.here.top, hx, hb, hdg, hmeth', hr, ret, narrow_b1]
  (try refine ⟨rfl, ?_⟩); (try refine ⟨rfl, ?_⟩)
  first | (intro acts; rw [hret _ acts rfl rfl rfl]) | rw [hret _ _ rfl rfl rfl]
  exact Steps.refl _
/-- what holds at the law's entry: the machine, the code, the tables' words (any of lw_tbl by 'hts w (by decide +kernel)'), the script of L ints xs at the cell b, what the Statement gives of the start (any of its parts by flat_of_before) -/
def lw_At (p : Program) (s : State) (m : MethodId) (meth : Method) (c : Code) (b L : Nat) (xs : Nat → Int32) : Prop :=
  p.tables.exec = Jvm.exec ∧ c.code = code ∧ meth.sig.returnType = ret ∧ c.maxLocals = 4 ∧ s.vm.findClass R_law = some m.cls ∧ (∀ w ∈ lw_tbl, w.before #[Value.ref b] s = true) ∧ va_X b L xs s s.heap ∧ b < s.heap.size ∧ meth.locks = false ∧ (Jvm.Cond.and given_1 narrow_1).before #[Value.ref b] s = true
theorem st_fac {args : Array Value} {s : State} (h : (Jvm.Cond.and given_1 narrow_1).before args s = true) (A : Nat → Prop) (hA : ∀ a : Nat, a < s.heap.size → ¬ A a) : ∃ t : Nat, (Term.static "LeafInk" "FACTORIALS" "[I").eval args s none [] s = some (.ref t) ∧ va_T .int t 6 (fun j => .int (a_fact j)) A s s.heap := by
  have hs := flat_of_before _ h
  refine va_Tof (by decide) (hs (.arrayOf (.static "LeafInk" "FACTORIALS" "[I") .int) (by decide +kernel)) (va_eqt (hs (.eq (.length (.static "LeafInk" "FACTORIALS" "[I")) (.int 6)) (by decide +kernel))) (fun j hj => ?_) hA
  match j, hj with
  | 0, _ => exact va_eqt (hs (.eq (.elem (.static "LeafInk" "FACTORIALS" "[I") (.int 0)) (.int 1)) (by decide +kernel))
  | 1, _ => exact va_eqt (hs (.eq (.elem (.static "LeafInk" "FACTORIALS" "[I") (.int 1)) (.int 1)) (by decide +kernel))
  | 2, _ => exact va_eqt (hs (.eq (.elem (.static "LeafInk" "FACTORIALS" "[I") (.int 2)) (.int 2)) (by decide +kernel))
  | 3, _ => exact va_eqt (hs (.eq (.elem (.static "LeafInk" "FACTORIALS" "[I") (.int 3)) (.int 6)) (by decide +kernel))
  | 4, _ => exact va_eqt (hs (.eq (.elem (.static "LeafInk" "FACTORIALS" "[I") (.int 4)) (.int 24)) (by decide +kernel))
  | 5, _ => exact va_eqt (hs (.eq (.elem (.static "LeafInk" "FACTORIALS" "[I") (.int 5)) (.int 120)) (by decide +kernel))
theorem st_fiv {args : Array Value} {s : State} (h : (Jvm.Cond.and given_1 narrow_1).before args s = true) (A : Nat → Prop) (hA : ∀ a : Nat, a < s.heap.size → ¬ A a) : ∃ t : Nat, (Term.static "LeafInk" "FIVES" "[J").eval args s none [] s = some (.ref t) ∧ va_T .long t 4 (fun j => .long (a_five j)) A s s.heap := by
  have hs := flat_of_before _ h
  refine va_Tof (by decide) (hs (.arrayOf (.static "LeafInk" "FIVES" "[J") .long) (by decide +kernel)) (va_eqt (hs (.eq (.length (.static "LeafInk" "FIVES" "[J")) (.int 4)) (by decide +kernel))) (fun j hj => ?_) hA
  match j, hj with
  | 0, _ => exact va_eqtl (hs (.eq (.elem (.static "LeafInk" "FIVES" "[J") (.int 0)) (.long 1)) (by decide +kernel))
  | 1, _ => exact va_eqtl (hs (.eq (.elem (.static "LeafInk" "FIVES" "[J") (.int 1)) (.long 100000)) (by decide +kernel))
  | 2, _ => exact va_eqtl (hs (.eq (.elem (.static "LeafInk" "FIVES" "[J") (.int 2)) (.long 10000000000)) (by decide +kernel))
  | 3, _ => exact va_eqtl (hs (.eq (.elem (.static "LeafInk" "FIVES" "[J") (.int 3)) (.long 1000000000000000)) (by decide +kernel))
theorem st_arr {args : Array Value} {s : State} {ty : FieldType} (h : (Cond.arrayClass ty).before args s = true) (hty : ty = .int ∨ ty = .boolean) : ∃ cA : ClassId, ArrOfT s cA ty ∧ va_RA s cA ty := by
  obtain ⟨cA, kA, comp, h1, h2, h3⟩ := Cond.arrayClass_spec h
  refine ⟨cA, fun n z => ⟨fun k h => (by cases h), kA, h2, comp, h3⟩, ?_⟩
  rcases hty with rfl | rfl <;> exact h1
set_option maxHeartbeats 8000000 in
set_option maxRecDepth 100000 in
/-- from the loop's head on -/
theorem st_loop {p : Program} {e : Env} {s : State} {m : MethodId} {below : List Frame} {meth : Method} {c : Code} (l : Launch) {b L : Nat} {xs : Nat → Int32} (hL : L ≤ 2560) (h0L : 0 < L) (C0 : lw_At p s m meth c b L xs) {D : va_G} {cI cZ : ClassId} (hK : va_K D vwCl (ct_ty cI cZ) s) (hT0 : ∀ w ∈ a_T0, w.before #[Value.ref b] s = true) {qs : List Nat} {aF aV : Nat} (hF1 : va_Z RX5 "FACTORIALS" "[I" (.ref aF) (fun q => s.heap.size ≤ q) s s.heap) (hF2 : va_T .int aF 6 (fun j => .int (a_fact j)) (fun q => s.heap.size ≤ q) s s.heap) (hV1 : va_Z RX5 "FIVES" "[J" (.ref aV) (fun q => s.heap.size ≤ q) s s.heap) (hV2 : va_T .long aV 4 (fun j => .long (a_five j)) (fun q => s.heap.size ≤ q) s s.heap) (hNw : va_Nw (.methodLinkNest RX3 77 yX5_isFigure RX5) s) {H : Heap} {locs : List Loc} (hP : va_P D vwCl (a_ws (st_E D cI cZ qs b aF aV s.heap.size L xs) (st_S xs L) st_G) H) (hD : va_D (fun q => s.heap.size ≤ q) (a_ws (st_E D cI cZ qs b aF aV s.heap.size L xs) (st_S xs L) st_G)) (hS : va_S (fun q => s.heap.size ≤ q) s.heap H locs) {ls : Array Slot} (hl : lv_has ls 4 [(3, .int 0), (2, .ref (qs.getD 34 0)), (1, .ref (qs.getD 0 0)), (0, .ref b)]) : W p l e room_1 s m #[Value.ref b] below meth c H locs 45 1986 (lw_Z below #[Value.ref b] s) (F0 m 18 ls []) := by
  obtain ⟨hx, hb, hr, hml, hown, hts, hX, hbl, hlocks, hgv⟩ := C0
  obtain ⟨E, hE⟩ : ∃ E, E = st_E D cI cZ qs b aF aV s.heap.size L xs := ⟨_, rfl⟩
  have hDe : a_De E := by
    rw [hE]
    refine ⟨fun i j hi hj h => hD.1 i j _ _ (a_ws_at _ _ _ hi) (a_ws_at _ _ _ hj) h, fun k hk => hD.2 k _ (a_ws_at _ _ _ hk), hL⟩
  have hFor : a_For E s s.heap := by
    rw [hE]
    refine ⟨?_, hF1, hF2, hV1, hV2, hNw⟩
    obtain ⟨scr, h1, h2, h3, h4, h5⟩ := hX
    exact ⟨scr, h1, h2, h3, Nat.le_of_eq h4.symm, by rw [h4]; rfl, h5, Nat.not_le.mpr hbl⟩
  have hSt : a_St E (st_S xs L) := by rw [hE]; exact ⟨rfl, rfl⟩
  have hC : a_Cx E mL_law room_1 p s m #[Value.ref b] meth c := by
    refine ⟨hx, hb, hml, hr, hlocks, hown, hT0, ?_, hFor, Nat.le_of_ble_eq_true rfl, Nat.le_of_ble_eq_true rfl⟩
    rw [hE]; exact hK
  have hloc : a_loc E ls 4 [.ref 1000, .ref 0, .ref 34, .int (nI 0)] := by
    refine ⟨rfl, lv_mono hl ?_⟩
    rintro ⟨k, w⟩ hq
    obtain ⟨v, hv, hn, rfl⟩ := (a_al_mem E).mp hq
    rw [hE]
    match k, hv with
    | 0, hv => cases hv; exact List.mem_of_getElem? (i := 3) rfl
    | 1, hv => cases hv; exact List.mem_of_getElem? (i := 2) rfl
    | 2, hv => cases hv; exact List.mem_of_getElem? (i := 1) rfl
    | 3, hv => cases hv; exact List.mem_of_getElem? (i := 0) rfl
    | k + 4, hv => cases hv
  obtain ⟨n, hn⟩ := lw_loop (Q := fun v _ _ => v = some (.int 1)) h0L hL rfl (fun _ _ => rfl) 600 0 (st_S xs L) st_G (by omega) (by omega) (st_inv xs L)
  refine a_sound E l hDe n mL_law 18 _ [] (st_S xs L) st_G _ hn p e room_1 s m #[Value.ref b] below meth c 45 1986 (lw_Z below #[Value.ref b] s) hC (Nat.le_refl 45) (Nat.le_refl 1986) ?_ H locs ls hSt (by rw [hE]; exact hP) (by rw [hE]; exact hS) hloc
  intro v S' G' H' locs' ls' pc' hv hSt' hP' hS' hrt
  subst hv
  rw [hE] at hS'
  refine va_forget (fun q hq => hS'.2.2 q hq) ?_
  exact lw_ret hx hb hr hlocks hrt.2
set_option maxHeartbeats 8000000 in
set_option maxRecDepth 100000 in
/-- THE LAW, from its entry -/
theorem whole_start {p : Program} {e : Env} {s : State} {m : MethodId} {below : List Frame} {meth : Method} {c : Code} (l : Launch) (hflags : l.flags = flags0) {b L : Nat} {xs : Nat → Int32} (hL : L ≤ 2560) (C0 : lw_At p s m meth c b L xs) : W p l e room_1 s m #[Value.ref b] below meth c s.heap [] 0 0 (lw_Z below #[Value.ref b] s) (entryFrame m ([Value.ref b] : List Value).toArray 4) := by
  obtain ⟨hx, hb, hr, hml, hown, hts, hX, hbl, hlocks, hgv⟩ := id C0
  have hT0 : ∀ w ∈ a_T0, w.before #[Value.ref b] s = true := fun w h => hts w (List.mem_filter.mp h).1
  have hown : s.vm.findClass RL = some m.cls := hown
  have hA : ∀ q : Nat, s.heap.size ≤ q → (fun q : Nat => s.heap.size ≤ q) q := fun _ h => h
  have hbA : ¬ (fun q : Nat => s.heap.size ≤ q) b := Nat.not_le.mpr hbl
  have hAa : ∀ a : Nat, a < s.heap.size → ¬ (fun q : Nat => s.heap.size ≤ q) a := fun a h => Nat.not_le.mpr h
  obtain ⟨aF, hFe, hF2⟩ := st_fac hgv _ hAa
  obtain ⟨aV, hVe, hV2⟩ := st_fiv hgv _ hAa
  have hF1 : va_Z RX5 "FACTORIALS" "[I" (.ref aF) (fun q => s.heap.size ≤ q) s s.heap := va_Zref (hts _ (List.mem_of_getElem? (i := 632) (by decide +kernel))) (hT0 _ a_in5) hFe hAa
  have hV1 : va_Z RX5 "FIVES" "[J" (.ref aV) (fun q => s.heap.size ≤ q) s s.heap := va_Zref (hts _ (List.mem_of_getElem? (i := 574) (by decide +kernel))) (hT0 _ a_in5) hVe hAa
  have hNw : va_Nw (.methodLinkNest RX3 77 yX5_isFigure RX5) s := va_Nw.of rfl (hts _ (List.mem_of_getElem? (i := 297) (by decide +kernel)))
  obtain ⟨cI, hI1, hI2⟩ := st_arr (hT0 _ ct_aI) (Or.inl rfl)
  obtain ⟨cZ, hZ1, hZ2⟩ := st_arr (hT0 _ ct_aZ) (Or.inr rfl)
  obtain ⟨c0, iS0, hKn0⟩ := u_known (C := RX0) (T := TX0) (N := 5) (n := 5) hT0 a_inX0 (hT0 _ ct_ia0)
  obtain ⟨c1, iS1, hKn1⟩ := u_known (C := RX1) (T := TX1) (N := 7) (n := 7) hT0 a_inX1 (hT0 _ ct_ia1)
  obtain ⟨c2, iS2, hKn2⟩ := u_known (C := RX2) (T := TX2) (N := 3) (n := 3) hT0 a_inX2 (hT0 _ ct_ia2)
  obtain ⟨c3, iS3, hKn3⟩ := u_known (C := RX3) (T := TX3) (N := 10) (n := 10) hT0 a_inX3 (hT0 _ ct_ia3)
  obtain ⟨c4, iS4, hKn4⟩ := u_known (C := RX4) (T := TX4) (N := 2) (n := 2) hT0 a_inX4 (hT0 _ ct_ia4)
  obtain ⟨c5, iS5, hKn5⟩ := u_known (C := RX5) (T := TX5) (N := 11) (n := 11) hT0 a_inX5 (hT0 _ ct_ia5)
  obtain ⟨c6, iS6, hKn6⟩ := u_known (C := RX6) (T := TX6) (N := 22) (n := 22) hT0 a_inX6 (hT0 _ ct_ia6)
  obtain ⟨D, hKc⟩ : ∃ (D : va_G), ∀ (k : Nat) (q : vw_C), vwCl[k]? = some q → u_Kn s q.1 q.2.1 q.2.2 (D.1 k) (D.2 k) := by
    refine ⟨(fun k => ([c0, c1, c2, c3, c4, c5, c6] : List ClassId).getD k c0, fun k => ([iS0, iS1, iS2, iS3, iS4, iS5, iS6] : List (Nat → Nat)).getD k iS0), ?_⟩
    intro k q hq
    match k, hq with
    | 0, hq => cases hq; exact hKn0
    | 1, hq => cases hq; exact hKn1
    | 2, hq => cases hq; exact hKn2
    | 3, hq => cases hq; exact hKn3
    | 4, hq => cases hq; exact hKn4
    | 5, hq => cases hq; exact hKn5
    | 6, hq => cases hq; exact hKn6
    | k + 7, hq => cases hq
  have hS : va_S (fun q : Nat => s.heap.size ≤ q) s.heap s.heap [] := va_S.rf
  have hK : va_K D vwCl (ct_ty cI cZ) s := ⟨hKc, fun k q h => by
    match k, h with
    | 0, h => cases h; exact ⟨hI1, hI2⟩
    | 1, h => cases h; exact ⟨hZ1, hZ2⟩
    | k + 2, h => cases h⟩
  have hP : va_P D vwCl [] s.heap := fun k q h => by simp at h
  have hD : va_D (fun q : Nat => s.heap.size ≤ q) [] := ⟨fun i j p q h => by simp at h, fun k q h => by simp at h⟩
  have hl := lv_entry ([.ref b]) (n := 4) (Nat.le_of_ble_eq_true rfl)
  rw [lg_entry_eq]
  generalize (lg_sl ([.ref b]) ++ List.replicate (4 - (lg_sl ([.ref b])).length) Slot.unset).toArray = ls at hl ⊢
  have hl : lv_has ls 4 [(0, .ref b)] := hl
  refine va_new (ci := 5) (fs := [.null, .null, .null, .null, .null, .null, .null, .null, .null, .int 0, .long 0]) (C := RX5) (T := TX5) (N := 11) hx hb hT0 a_inX5 tyX5 tyX5_ok hown (hT0 _ ct_lc5) (hT0 _ ct_ia5) (hT0 _ a_in5) hK hP hD hS hA rfl (fun j hj => by rcases (show j = 0 ∨ j = 1 ∨ j = 2 ∨ j = 3 ∨ j = 4 ∨ j = 5 ∨ j = 6 ∨ j = 7 ∨ j = 8 ∨ j = 9 ∨ j = 10 by omega) with rfl | rfl | rfl | rfl | rfl | rfl | rfl | rfl | rfl | rfl | rfl <;> rfl) (show 0+1 ≤ 45 from Nat.le_of_ble_eq_true rfl) (show 0+11 ≤ 1986 from Nat.le_of_ble_eq_true rfl) dL_law_0 (fun q0 H hP hD hS => ?_)
  have hP : va_P D vwCl [(q0, .inr (5, [.null, .null, .null, .null, .null, .null, .null, .null, .null, .int 0, .long 0]))] H := hP
  have hD : va_D (fun q : Nat => s.heap.size ≤ q) [(q0, .inr (5, [.null, .null, .null, .null, .null, .null, .null, .null, .null, .int 0, .long 0]))] := hD
  refine W.widen (k := 1) (n := 11) (by omega) (by omega) ?_
  refine lv_dup hx hb dL_law_3 rfl ?_
  have hPc := hP.sub (ws' := [(q0, .inr (5, [.null, .null, .null, .null, .null, .null, .null, .null, .null, .int 0, .long 0]))]) [0] rfl
  have hDc := hD.sub (ws' := [(q0, .inr (5, [.null, .null, .null, .null, .null, .null, .null, .null, .null, .int 0, .long 0]))]) [0] (by decide) rfl
  have hFc := va_free (wc := [(q0, .inr (5, [.null, .null, .null, .null, .null, .null, .null, .null, .null, .int 0, .long 0]))]) hD hS hA [0] rfl
  refine va_callv (va_runI (As := []) (rest := [.ref q0]) ⟨hx, hb, hml, hown, hT0⟩ (ct_X5 l D cI cZ q0 H.size) (cwI 0 hT0 ct_g5 rfl rfl rfl (hT0 _ a_in5) (hT0 _ ct_lm5) (hT0 _ ct_im5) rfl (by decide +kernel) ⟨Nat.le_of_ble_eq_true rfl, Nat.le_of_ble_eq_true rfl⟩) ⟨fun a U g mk q => by obtain ⟨q0, q1, qP, qK, qD⟩ := q; exact ⟨q0, q1, qP, va_K.moved (u := U) (U := U.calling g mk a) (Vm.Alike.refl U.vm) qK, qD⟩, fun U hU hW => ⟨rfl, by rw [hU], by rw [hU]; exact hPc, va_K.moved hW.alike hK, hDc.weaken (fun _ _ _ _ => trivial)⟩⟩ rfl rfl hl.1 rfl (lv_room (Nat.le_of_ble_eq_true rfl)) dL_law_4 ⟨show 1+33 ≤ 45 from Nat.le_of_ble_eq_true rfl, show 11+578 ≤ 1986 from Nat.le_of_ble_eq_true rfl⟩) hS (fun q _ h => hFc q h) hFc (fun u t H1 locs ht hvm hw hB hz1 hk1 hS => ?_)
  obtain ⟨q1, q2, q3, q4, q5, q6, q7, q8, q9, q10, q11, q12, q13, q14, q15, q16, q17, q18, q19, q20, q21, q22, q23, q24, q25, q26, q27, q28, q29, q30, q31, q32, q33, hP1, hK1, hD1⟩ := hB
  rw [ht] at hP1
  obtain ⟨hP, hD⟩ := va_join (wr := []) (w1 := [(q0, .inr (5, [.ref q1, .ref q3, .ref q7, .ref q11, .ref q15, .ref q19, .ref q25, .ref q30, .ref q33, .int 0, .long 0])), (q1, .inr (4, [.ref q2, .int 0])), (q2, .inl (cI, 56, .inl (fun _ => 0))), (q3, .inr (3, [.ref q4, .ref q5, .ref q6, .int 1, .int 1, .int 0, .int 1, .int 1, .int 0, .int 0])), (q4, .inl (cI, 25, .inl (upd (fun _ => 0) 0 9))), (q5, .inl (cI, 25, .inl (upd (fun _ => 0) 0 9))), (q6, .inl (cI, 10, .inl (fun _ => 0))), (q7, .inr (3, [.ref q8, .ref q9, .ref q10, .int 1, .int 1, .int 0, .int 1, .int 1, .int 0, .int 0])), (q8, .inl (cI, 25, .inl (upd (fun _ => 0) 0 9))), (q9, .inl (cI, 25, .inl (upd (fun _ => 0) 0 9))), (q10, .inl (cI, 10, .inl (fun _ => 0))), (q11, .inr (3, [.ref q12, .ref q13, .ref q14, .int 1, .int 1, .int 0, .int 1, .int 1, .int 0, .int 0])), (q12, .inl (cI, 25, .inl (upd (fun _ => 0) 0 9))), (q13, .inl (cI, 25, .inl (upd (fun _ => 0) 0 9))), (q14, .inl (cI, 10, .inl (fun _ => 0))), (q15, .inr (3, [.ref q16, .ref q17, .ref q18, .int 1, .int 1, .int 0, .int 1, .int 1, .int 0, .int 0])), (q16, .inl (cI, 25, .inl (upd (fun _ => 0) 0 9))), (q17, .inl (cI, 25, .inl (upd (fun _ => 0) 0 9))), (q18, .inl (cI, 10, .inl (fun _ => 0))), (q19, .inr (1, [.ref q20, .ref q21, .ref q22, .ref q23, .ref q24, .int 0, .int 0])), (q20, .inl (cI, 25, .inl (fun _ => 0))), (q21, .inl (cI, 25, .inl (fun _ => 0))), (q22, .inl (cI, 25, .inl (fun _ => 0))), (q23, .inl (cI, 25, .inl (fun _ => 0))), (q24, .inl (cI, 25, .inl (fun _ => 0))), (q25, .inr (0, [.ref q26, .ref q27, .ref q28, .ref q29, .int 0])), (q26, .inl (cI, 14, .inl (fun _ => 0))), (q27, .inl (cI, 14, .inl (fun _ => 0))), (q28, .inl (cI, 14, .inl (fun _ => 0))), (q29, .inl (cI, 14, .inl (fun _ => 0))), (q30, .inr (2, [.ref q31, .ref q32, .int 0])), (q31, .inl (cI, 6, .inl (fun _ => 0))), (q32, .inl (cI, 6, .inl (fun _ => 0))), (q33, .inl (cI, 32, .inl (fun _ => 0)))]) hP hD [0] [] rfl rfl (by decide) (by decide) hk1 hFc hP1 hD1
  generalize H1 = H at hP hS ⊢
  have hP : va_P D vwCl [(q0, .inr (5, [.ref q1, .ref q3, .ref q7, .ref q11, .ref q15, .ref q19, .ref q25, .ref q30, .ref q33, .int 0, .long 0])), (q1, .inr (4, [.ref q2, .int 0])), (q2, .inl (cI, 56, .inl (fun _ => 0))), (q3, .inr (3, [.ref q4, .ref q5, .ref q6, .int 1, .int 1, .int 0, .int 1, .int 1, .int 0, .int 0])), (q4, .inl (cI, 25, .inl (upd (fun _ => 0) 0 9))), (q5, .inl (cI, 25, .inl (upd (fun _ => 0) 0 9))), (q6, .inl (cI, 10, .inl (fun _ => 0))), (q7, .inr (3, [.ref q8, .ref q9, .ref q10, .int 1, .int 1, .int 0, .int 1, .int 1, .int 0, .int 0])), (q8, .inl (cI, 25, .inl (upd (fun _ => 0) 0 9))), (q9, .inl (cI, 25, .inl (upd (fun _ => 0) 0 9))), (q10, .inl (cI, 10, .inl (fun _ => 0))), (q11, .inr (3, [.ref q12, .ref q13, .ref q14, .int 1, .int 1, .int 0, .int 1, .int 1, .int 0, .int 0])), (q12, .inl (cI, 25, .inl (upd (fun _ => 0) 0 9))), (q13, .inl (cI, 25, .inl (upd (fun _ => 0) 0 9))), (q14, .inl (cI, 10, .inl (fun _ => 0))), (q15, .inr (3, [.ref q16, .ref q17, .ref q18, .int 1, .int 1, .int 0, .int 1, .int 1, .int 0, .int 0])), (q16, .inl (cI, 25, .inl (upd (fun _ => 0) 0 9))), (q17, .inl (cI, 25, .inl (upd (fun _ => 0) 0 9))), (q18, .inl (cI, 10, .inl (fun _ => 0))), (q19, .inr (1, [.ref q20, .ref q21, .ref q22, .ref q23, .ref q24, .int 0, .int 0])), (q20, .inl (cI, 25, .inl (fun _ => 0))), (q21, .inl (cI, 25, .inl (fun _ => 0))), (q22, .inl (cI, 25, .inl (fun _ => 0))), (q23, .inl (cI, 25, .inl (fun _ => 0))), (q24, .inl (cI, 25, .inl (fun _ => 0))), (q25, .inr (0, [.ref q26, .ref q27, .ref q28, .ref q29, .int 0])), (q26, .inl (cI, 14, .inl (fun _ => 0))), (q27, .inl (cI, 14, .inl (fun _ => 0))), (q28, .inl (cI, 14, .inl (fun _ => 0))), (q29, .inl (cI, 14, .inl (fun _ => 0))), (q30, .inr (2, [.ref q31, .ref q32, .int 0])), (q31, .inl (cI, 6, .inl (fun _ => 0))), (q32, .inl (cI, 6, .inl (fun _ => 0))), (q33, .inl (cI, 32, .inl (fun _ => 0)))] H := hP
  have hD : va_D (fun q : Nat => s.heap.size ≤ q) [(q0, .inr (5, [.ref q1, .ref q3, .ref q7, .ref q11, .ref q15, .ref q19, .ref q25, .ref q30, .ref q33, .int 0, .long 0])), (q1, .inr (4, [.ref q2, .int 0])), (q2, .inl (cI, 56, .inl (fun _ => 0))), (q3, .inr (3, [.ref q4, .ref q5, .ref q6, .int 1, .int 1, .int 0, .int 1, .int 1, .int 0, .int 0])), (q4, .inl (cI, 25, .inl (upd (fun _ => 0) 0 9))), (q5, .inl (cI, 25, .inl (upd (fun _ => 0) 0 9))), (q6, .inl (cI, 10, .inl (fun _ => 0))), (q7, .inr (3, [.ref q8, .ref q9, .ref q10, .int 1, .int 1, .int 0, .int 1, .int 1, .int 0, .int 0])), (q8, .inl (cI, 25, .inl (upd (fun _ => 0) 0 9))), (q9, .inl (cI, 25, .inl (upd (fun _ => 0) 0 9))), (q10, .inl (cI, 10, .inl (fun _ => 0))), (q11, .inr (3, [.ref q12, .ref q13, .ref q14, .int 1, .int 1, .int 0, .int 1, .int 1, .int 0, .int 0])), (q12, .inl (cI, 25, .inl (upd (fun _ => 0) 0 9))), (q13, .inl (cI, 25, .inl (upd (fun _ => 0) 0 9))), (q14, .inl (cI, 10, .inl (fun _ => 0))), (q15, .inr (3, [.ref q16, .ref q17, .ref q18, .int 1, .int 1, .int 0, .int 1, .int 1, .int 0, .int 0])), (q16, .inl (cI, 25, .inl (upd (fun _ => 0) 0 9))), (q17, .inl (cI, 25, .inl (upd (fun _ => 0) 0 9))), (q18, .inl (cI, 10, .inl (fun _ => 0))), (q19, .inr (1, [.ref q20, .ref q21, .ref q22, .ref q23, .ref q24, .int 0, .int 0])), (q20, .inl (cI, 25, .inl (fun _ => 0))), (q21, .inl (cI, 25, .inl (fun _ => 0))), (q22, .inl (cI, 25, .inl (fun _ => 0))), (q23, .inl (cI, 25, .inl (fun _ => 0))), (q24, .inl (cI, 25, .inl (fun _ => 0))), (q25, .inr (0, [.ref q26, .ref q27, .ref q28, .ref q29, .int 0])), (q26, .inl (cI, 14, .inl (fun _ => 0))), (q27, .inl (cI, 14, .inl (fun _ => 0))), (q28, .inl (cI, 14, .inl (fun _ => 0))), (q29, .inl (cI, 14, .inl (fun _ => 0))), (q30, .inr (2, [.ref q31, .ref q32, .int 0])), (q31, .inl (cI, 6, .inl (fun _ => 0))), (q32, .inl (cI, 6, .inl (fun _ => 0))), (q33, .inl (cI, 32, .inl (fun _ => 0)))] := hD
  refine W.widen (k := 34) (n := 589) (by omega) (by omega) ?_
  refine lv_astore_n (lv' := [(1, .ref q0), (0, .ref b)]) hx hb dL_law_7 rfl hl (by decide) rfl (fun ls hl => ?_)
  refine va_new (ci := 6) (fs := [.int 0, .null, .int 0, .null, .null, .null, .null, .int 0, .null, .null, .int 0, .null, .null, .long 0, .int 0, .int 0, .int 0, .int 0, .int 0, .int 0, .int 0, .null]) (C := RX6) (T := TX6) (N := 22) hx hb hT0 a_inX6 tyX6 tyX6_ok hown (hT0 _ ct_lc6) (hT0 _ ct_ia6) (hT0 _ a_in6) hK hP hD hS hA rfl (fun j hj => by rcases (show j = 0 ∨ j = 1 ∨ j = 2 ∨ j = 3 ∨ j = 4 ∨ j = 5 ∨ j = 6 ∨ j = 7 ∨ j = 8 ∨ j = 9 ∨ j = 10 ∨ j = 11 ∨ j = 12 ∨ j = 13 ∨ j = 14 ∨ j = 15 ∨ j = 16 ∨ j = 17 ∨ j = 18 ∨ j = 19 ∨ j = 20 ∨ j = 21 by omega) with rfl | rfl | rfl | rfl | rfl | rfl | rfl | rfl | rfl | rfl | rfl | rfl | rfl | rfl | rfl | rfl | rfl | rfl | rfl | rfl | rfl | rfl <;> rfl) (show 34+1 ≤ 45 from Nat.le_of_ble_eq_true rfl) (show 589+22 ≤ 1986 from Nat.le_of_ble_eq_true rfl) dL_law_8 (fun q34 H hP hD hS => ?_)
  have hP : va_P D vwCl [(q0, .inr (5, [.ref q1, .ref q3, .ref q7, .ref q11, .ref q15, .ref q19, .ref q25, .ref q30, .ref q33, .int 0, .long 0])), (q1, .inr (4, [.ref q2, .int 0])), (q2, .inl (cI, 56, .inl (fun _ => 0))), (q3, .inr (3, [.ref q4, .ref q5, .ref q6, .int 1, .int 1, .int 0, .int 1, .int 1, .int 0, .int 0])), (q4, .inl (cI, 25, .inl (upd (fun _ => 0) 0 9))), (q5, .inl (cI, 25, .inl (upd (fun _ => 0) 0 9))), (q6, .inl (cI, 10, .inl (fun _ => 0))), (q7, .inr (3, [.ref q8, .ref q9, .ref q10, .int 1, .int 1, .int 0, .int 1, .int 1, .int 0, .int 0])), (q8, .inl (cI, 25, .inl (upd (fun _ => 0) 0 9))), (q9, .inl (cI, 25, .inl (upd (fun _ => 0) 0 9))), (q10, .inl (cI, 10, .inl (fun _ => 0))), (q11, .inr (3, [.ref q12, .ref q13, .ref q14, .int 1, .int 1, .int 0, .int 1, .int 1, .int 0, .int 0])), (q12, .inl (cI, 25, .inl (upd (fun _ => 0) 0 9))), (q13, .inl (cI, 25, .inl (upd (fun _ => 0) 0 9))), (q14, .inl (cI, 10, .inl (fun _ => 0))), (q15, .inr (3, [.ref q16, .ref q17, .ref q18, .int 1, .int 1, .int 0, .int 1, .int 1, .int 0, .int 0])), (q16, .inl (cI, 25, .inl (upd (fun _ => 0) 0 9))), (q17, .inl (cI, 25, .inl (upd (fun _ => 0) 0 9))), (q18, .inl (cI, 10, .inl (fun _ => 0))), (q19, .inr (1, [.ref q20, .ref q21, .ref q22, .ref q23, .ref q24, .int 0, .int 0])), (q20, .inl (cI, 25, .inl (fun _ => 0))), (q21, .inl (cI, 25, .inl (fun _ => 0))), (q22, .inl (cI, 25, .inl (fun _ => 0))), (q23, .inl (cI, 25, .inl (fun _ => 0))), (q24, .inl (cI, 25, .inl (fun _ => 0))), (q25, .inr (0, [.ref q26, .ref q27, .ref q28, .ref q29, .int 0])), (q26, .inl (cI, 14, .inl (fun _ => 0))), (q27, .inl (cI, 14, .inl (fun _ => 0))), (q28, .inl (cI, 14, .inl (fun _ => 0))), (q29, .inl (cI, 14, .inl (fun _ => 0))), (q30, .inr (2, [.ref q31, .ref q32, .int 0])), (q31, .inl (cI, 6, .inl (fun _ => 0))), (q32, .inl (cI, 6, .inl (fun _ => 0))), (q33, .inl (cI, 32, .inl (fun _ => 0))), (q34, .inr (6, [.int 0, .null, .int 0, .null, .null, .null, .null, .int 0, .null, .null, .int 0, .null, .null, .long 0, .int 0, .int 0, .int 0, .int 0, .int 0, .int 0, .int 0, .null]))] H := hP
  have hD : va_D (fun q : Nat => s.heap.size ≤ q) [(q0, .inr (5, [.ref q1, .ref q3, .ref q7, .ref q11, .ref q15, .ref q19, .ref q25, .ref q30, .ref q33, .int 0, .long 0])), (q1, .inr (4, [.ref q2, .int 0])), (q2, .inl (cI, 56, .inl (fun _ => 0))), (q3, .inr (3, [.ref q4, .ref q5, .ref q6, .int 1, .int 1, .int 0, .int 1, .int 1, .int 0, .int 0])), (q4, .inl (cI, 25, .inl (upd (fun _ => 0) 0 9))), (q5, .inl (cI, 25, .inl (upd (fun _ => 0) 0 9))), (q6, .inl (cI, 10, .inl (fun _ => 0))), (q7, .inr (3, [.ref q8, .ref q9, .ref q10, .int 1, .int 1, .int 0, .int 1, .int 1, .int 0, .int 0])), (q8, .inl (cI, 25, .inl (upd (fun _ => 0) 0 9))), (q9, .inl (cI, 25, .inl (upd (fun _ => 0) 0 9))), (q10, .inl (cI, 10, .inl (fun _ => 0))), (q11, .inr (3, [.ref q12, .ref q13, .ref q14, .int 1, .int 1, .int 0, .int 1, .int 1, .int 0, .int 0])), (q12, .inl (cI, 25, .inl (upd (fun _ => 0) 0 9))), (q13, .inl (cI, 25, .inl (upd (fun _ => 0) 0 9))), (q14, .inl (cI, 10, .inl (fun _ => 0))), (q15, .inr (3, [.ref q16, .ref q17, .ref q18, .int 1, .int 1, .int 0, .int 1, .int 1, .int 0, .int 0])), (q16, .inl (cI, 25, .inl (upd (fun _ => 0) 0 9))), (q17, .inl (cI, 25, .inl (upd (fun _ => 0) 0 9))), (q18, .inl (cI, 10, .inl (fun _ => 0))), (q19, .inr (1, [.ref q20, .ref q21, .ref q22, .ref q23, .ref q24, .int 0, .int 0])), (q20, .inl (cI, 25, .inl (fun _ => 0))), (q21, .inl (cI, 25, .inl (fun _ => 0))), (q22, .inl (cI, 25, .inl (fun _ => 0))), (q23, .inl (cI, 25, .inl (fun _ => 0))), (q24, .inl (cI, 25, .inl (fun _ => 0))), (q25, .inr (0, [.ref q26, .ref q27, .ref q28, .ref q29, .int 0])), (q26, .inl (cI, 14, .inl (fun _ => 0))), (q27, .inl (cI, 14, .inl (fun _ => 0))), (q28, .inl (cI, 14, .inl (fun _ => 0))), (q29, .inl (cI, 14, .inl (fun _ => 0))), (q30, .inr (2, [.ref q31, .ref q32, .int 0])), (q31, .inl (cI, 6, .inl (fun _ => 0))), (q32, .inl (cI, 6, .inl (fun _ => 0))), (q33, .inl (cI, 32, .inl (fun _ => 0))), (q34, .inr (6, [.int 0, .null, .int 0, .null, .null, .null, .null, .int 0, .null, .null, .int 0, .null, .null, .long 0, .int 0, .int 0, .int 0, .int 0, .int 0, .int 0, .int 0, .null]))] := hD
  refine W.widen (k := 35) (n := 611) (by omega) (by omega) ?_
  refine lv_dup hx hb dL_law_11 rfl ?_
  have hPc := hP.sub (ws' := [(q34, .inr (6, [.int 0, .null, .int 0, .null, .null, .null, .null, .int 0, .null, .null, .int 0, .null, .null, .long 0, .int 0, .int 0, .int 0, .int 0, .int 0, .int 0, .int 0, .null]))]) [34] rfl
  have hDc := hD.sub (ws' := [(q34, .inr (6, [.int 0, .null, .int 0, .null, .null, .null, .null, .int 0, .null, .null, .int 0, .null, .null, .long 0, .int 0, .int 0, .int 0, .int 0, .int 0, .int 0, .int 0, .null]))]) [34] (by decide) rfl
  have hFc := va_free (wc := [(q34, .inr (6, [.int 0, .null, .int 0, .null, .null, .null, .null, .int 0, .null, .null, .int 0, .null, .null, .long 0, .int 0, .int 0, .int 0, .int 0, .int 0, .int 0, .int 0, .null]))]) hD hS hA [34] rfl
  refine va_callv (va_runI (As := []) (rest := [.ref q34]) ⟨hx, hb, hml, hown, hT0⟩ (ct_X6 l D cI cZ q34 H.size) (cwI 0 hT0 ct_g6 rfl rfl rfl (hT0 _ a_in6) (hT0 _ ct_lm6) (hT0 _ ct_im6) rfl (by decide +kernel) ⟨Nat.le_of_ble_eq_true rfl, Nat.le_of_ble_eq_true rfl⟩) ⟨fun a U g mk q => by obtain ⟨q0, q1, qP, qK, qD⟩ := q; exact ⟨q0, q1, qP, va_K.moved (u := U) (U := U.calling g mk a) (Vm.Alike.refl U.vm) qK, qD⟩, fun U hU hW => ⟨rfl, by rw [hU], by rw [hU]; exact hPc, va_K.moved hW.alike hK, hDc.weaken (fun _ _ _ _ => trivial)⟩⟩ rfl rfl hl.1 rfl (lv_room (Nat.le_of_ble_eq_true rfl)) dL_law_12 ⟨show 35+10 ≤ 45 from Nat.le_of_ble_eq_true rfl, show 611+1375 ≤ 1986 from Nat.le_of_ble_eq_true rfl⟩) hS (fun q _ h => hFc q h) hFc (fun u t H1 locs ht hvm hw hB hz1 hk1 hS => ?_)
  obtain ⟨q35, q36, q37, q38, q39, q40, q41, q42, q43, q44, hP1, hK1, hD1⟩ := hB
  rw [ht] at hP1
  obtain ⟨hP, hD⟩ := va_join (wr := [(q0, .inr (5, [.ref q1, .ref q3, .ref q7, .ref q11, .ref q15, .ref q19, .ref q25, .ref q30, .ref q33, .int 0, .long 0])), (q1, .inr (4, [.ref q2, .int 0])), (q2, .inl (cI, 56, .inl (fun _ => 0))), (q3, .inr (3, [.ref q4, .ref q5, .ref q6, .int 1, .int 1, .int 0, .int 1, .int 1, .int 0, .int 0])), (q4, .inl (cI, 25, .inl (upd (fun _ => 0) 0 9))), (q5, .inl (cI, 25, .inl (upd (fun _ => 0) 0 9))), (q6, .inl (cI, 10, .inl (fun _ => 0))), (q7, .inr (3, [.ref q8, .ref q9, .ref q10, .int 1, .int 1, .int 0, .int 1, .int 1, .int 0, .int 0])), (q8, .inl (cI, 25, .inl (upd (fun _ => 0) 0 9))), (q9, .inl (cI, 25, .inl (upd (fun _ => 0) 0 9))), (q10, .inl (cI, 10, .inl (fun _ => 0))), (q11, .inr (3, [.ref q12, .ref q13, .ref q14, .int 1, .int 1, .int 0, .int 1, .int 1, .int 0, .int 0])), (q12, .inl (cI, 25, .inl (upd (fun _ => 0) 0 9))), (q13, .inl (cI, 25, .inl (upd (fun _ => 0) 0 9))), (q14, .inl (cI, 10, .inl (fun _ => 0))), (q15, .inr (3, [.ref q16, .ref q17, .ref q18, .int 1, .int 1, .int 0, .int 1, .int 1, .int 0, .int 0])), (q16, .inl (cI, 25, .inl (upd (fun _ => 0) 0 9))), (q17, .inl (cI, 25, .inl (upd (fun _ => 0) 0 9))), (q18, .inl (cI, 10, .inl (fun _ => 0))), (q19, .inr (1, [.ref q20, .ref q21, .ref q22, .ref q23, .ref q24, .int 0, .int 0])), (q20, .inl (cI, 25, .inl (fun _ => 0))), (q21, .inl (cI, 25, .inl (fun _ => 0))), (q22, .inl (cI, 25, .inl (fun _ => 0))), (q23, .inl (cI, 25, .inl (fun _ => 0))), (q24, .inl (cI, 25, .inl (fun _ => 0))), (q25, .inr (0, [.ref q26, .ref q27, .ref q28, .ref q29, .int 0])), (q26, .inl (cI, 14, .inl (fun _ => 0))), (q27, .inl (cI, 14, .inl (fun _ => 0))), (q28, .inl (cI, 14, .inl (fun _ => 0))), (q29, .inl (cI, 14, .inl (fun _ => 0))), (q30, .inr (2, [.ref q31, .ref q32, .int 0])), (q31, .inl (cI, 6, .inl (fun _ => 0))), (q32, .inl (cI, 6, .inl (fun _ => 0))), (q33, .inl (cI, 32, .inl (fun _ => 0)))]) (w1 := [(q34, .inr (6, [.int 0, .ref q35, .int 0, .ref q36, .ref q37, .ref q38, .ref q39, .int 0, .ref q40, .ref q41, .int 0, .ref q42, .ref q43, .long 0, .int 0, .int 0, .int 0, .int 0, .int 0, .int 0, .int 0, .ref q44])), (q35, .inl (cI, 56, .inl (fun _ => 0))), (q36, .inl (cI, 67, .inl (fun _ => 0))), (q37, .inl (cI, 67, .inl (ct_or (upd (upd (upd (upd (fun _ => 0) 0 1) 1 1) 2 9) 27 9)))), (q38, .inl (cI, 67, .inl (fun _ => 0))), (q39, .inl (cI, 938, .inl (fun _ => 0))), (q40, .inl (cI, 134, .inl (fun _ => 0))), (q41, .inl (cZ, 2, .inl (fun _ => 0))), (q42, .inl (cI, 6, .inl (fun _ => 0))), (q43, .inl (cI, 6, .inl (fun _ => 0))), (q44, .inl (cI, 32, .inl (fun _ => 0)))]) hP hD [34] [0, 1, 2, 3, 4, 5, 6, 7, 8, 9, 10, 11, 12, 13, 14, 15, 16, 17, 18, 19, 20, 21, 22, 23, 24, 25, 26, 27, 28, 29, 30, 31, 32, 33] rfl rfl (by decide) (by decide) hk1 hFc hP1 hD1
  generalize H1 = H at hP hS ⊢
  refine W.widen (k := 45) (n := 1986) (by omega) (by omega) ?_
  have hP : va_P D vwCl (a_ws (st_E D cI cZ [q0, q1, q2, q3, q4, q5, q6, q7, q8, q9, q10, q11, q12, q13, q14, q15, q16, q17, q18, q19, q20, q21, q22, q23, q24, q25, q26, q27, q28, q29, q30, q31, q32, q33, q34, q35, q36, q37, q38, q39, q40, q41, q42, q43, q44] b aF aV s.heap.size L xs) (st_S xs L) st_G) H := by rw [st_ws]; exact hP
  have hD : va_D (fun q : Nat => s.heap.size ≤ q) (a_ws (st_E D cI cZ [q0, q1, q2, q3, q4, q5, q6, q7, q8, q9, q10, q11, q12, q13, q14, q15, q16, q17, q18, q19, q20, q21, q22, q23, q24, q25, q26, q27, q28, q29, q30, q31, q32, q33, q34, q35, q36, q37, q38, q39, q40, q41, q42, q43, q44] b aF aV s.heap.size L xs) (st_S xs L) st_G) := by rw [st_ws]; exact hD
  refine lv_astore_n (lv' := [(2, .ref q34), (1, .ref q0), (0, .ref b)]) hx hb dL_law_15 rfl hl (by decide) rfl (fun ls hl => ?_)
  refine lv_iconst (v := 0) hx hb dL_law_16 (by decide) ?_
  refine lv_istore_n (lv' := [(3, .int 0), (2, .ref q34), (1, .ref q0), (0, .ref b)]) hx hb dL_law_17 rfl hl (by decide) rfl (fun ls hl => ?_)
  by_cases h0L : 0 < L
  · exact st_loop l hL h0L C0 hK hT0 hF1 hF2 hV1 hV2 hNw hP hD hS hl
  · obtain rfl : L = 0 := by omega
    refine lv_iload_n hx hb dL_law_18 rfl (lv_at hl 0 rfl) ?_
    refine lv_aload_n hx hb dL_law_19 rfl (lv_at hl 3 rfl) ?_
    refine va_slen hx hb hX hbl hbA hS dL_law_20 ?_
    refine lv_iconst (v := 5) hx hb dL_law_21 (by decide) ?_
    refine lv_isub hx hb dL_law_22 ?_
    refine lv_icmp_gt (tgt := 1119) hx hb dL_law_23 (by decide) (fun _ => ?_) (fun c1 => absurd (by decide) c1)
    refine lv_iconst (v := 1) hx hb dL_law_1119 (by decide) ?_
    refine va_forget (fun q hq => hS.2.2 q hq) ?_
    exact lw_ret hx hb hr hlocks dL_law_1120
-- ===== YOUR PART ENDS =====
set_option maxHeartbeats 4000000 in
theorem lw_walk (l : Launch) (hflags : l.flags = flags0) (b : Addr) (xs : List Int32) : MetFree l x (headSpec (Jvm.Cond.code x code maxLocals ret :: tables_1) room_1) (lw_P b xs) (fun _ _ _ _ _ => True) lw_Q := by
  refine MetFree.of_bodyS (code := code) (maxLocals := maxLocals) (ret := ret) (by decide) ?_ ?_
  · intro args s m h hn
    obtain ⟨meth, c, h1, h2, h3, h4, h5, h6, -, -⟩ := Cond.code_spec hn (atoms_spec (ws := Jvm.Cond.code x code maxLocals ret :: tables_1) h _ List.mem_cons_self)
    exact ⟨meth, c, h1, h2, h3, h4, h5, h6⟩
  · intro p e s m args below meth c s₁ B hml0 hP _
    obtain ⟨rfl, hx, hbd, hgv⟩ := hP
    obtain ⟨scr, harrAt, hlist, hof, hsmall⟩ := hx
    obtain ⟨hcb, hkn, -, -⟩ := State.arrayAt?_spec harrAt
    have hown : s.vm.findClass R_law = some m.cls := findClass_of_methodNamed B.named
    have hts0 : ∀ c ∈ (Jvm.Cond.code x code maxLocals ret :: tables_1), c.before #[Value.ref b] s = true := atoms_spec (ws := Jvm.Cond.code x code maxLocals ret :: tables_1) B.pre
    have hts : ∀ w ∈ lw_tbl, w.before #[Value.ref b] s = true := k2_hts_sels lw_privs (fun w hw => hts0 w (List.mem_cons_of_mem _ hw)) lw_privs_ok
    have hml : c.maxLocals = 4 := B.maxLocals_eq (hts0 _ List.mem_cons_self)
    have X₀ : Stand p l e room_1 s m #[Value.ref b] below meth c s₁ [] 0 0 := Stand.of_body B
    have hh0 : s₁.heap = s.heap := by rw [B.state]; rfl
    have hsz : scr.slots.size = xs.length := by rw [← Array.length_toList, hlist, List.length_map]
    have hval : ∀ j : Nat, j < xs.length → scr.slots[j]? = some (.int (xs.getD j 0)) := fun j hj => by
      rw [← Array.getElem?_toList, hlist]
      simp [hj]
    have hbl : b < s.heap.size := (Array.getElem?_eq_some_iff.mp hcb).1
    have hX : va_X b xs.length (fun j => xs.getD j 0) s s.heap := ⟨scr, hcb, hof, hkn, hsz, hval⟩
    have K : W p l e room_1 s m #[Value.ref b] below meth c s₁.heap [] 0 0 (lw_Z below #[Value.ref b] s) (entryFrame m ([Value.ref b] : List Value).toArray 4) := by
      rw [hh0]
      exact whole_start l hflags hbd ⟨B.exec, B.bytes, B.returns, hml, hown, hts, hX, hbl, B.notSynchronized, hgv⟩
    obtain ⟨t, a1, o, b1, b2, b3⟩ := K s₁ rfl X₀
    exact ⟨t, o, a1, b1, b2, b3⟩
theorem lw_pre_spec {args : Array Value} {s : State} (h : (Jvm.Cond.and given_1 narrow_1).before args s = true) (hr : rest_1_c.before args s = true) : ∃ (b : Addr) (xs : List Int32), lw_P b xs args s := by
  have hs := flat_of_before _ h
  have hq := flat_of_before _ hr
  have hc : (Cond.count 1).before args s = true := hs _ (by decide +kernel)
  have harr : (Cond.arrayOf (.arg 0) .int).before args s = true := hs _ (by decide +kernel)
  have hle : (Cond.le (.length (.arg 0)) (.int 2560)).before args s = true := hs _ (by decide +kernel)
  have hlen : (Cond.isInt (.length (.arg 0))).before args s = true := hq _ (by decide +kernel)
  have hall : (Cond.all (.arg 0) (.isInt (.elem (.arg 0) (.index 0)))).before args s = true := hq _ (by decide +kernel)
  obtain ⟨b, xs, hb, hx⟩ := State.ints_of_pre rfl harr hlen hall
  have hsm : xs.length < 2 ^ 31 := hx.choose_spec.2.2.2
  have hev : (Term.length (.arg 0)).eval args s none [] s = some (.int xs.length.toInt32) := hx.length_eval hb
  have hv := Cond.le_ints hev (show (Term.int 2560).eval args s none [] s = some (.int 2560) from rfl)
  have hd : xs.length.toInt32 ≤ 2560 := by
    simpa [Cond.before, Cond.holds, hv] using hle
  have hN : xs.length ≤ 2560 := (Int32.ofNat_le_ofNat hsm (by decide)).mp (show Int32.ofNat xs.length ≤ Int32.ofNat 2560 from hd)
  exact ⟨b, xs, Cond.one_arg hc (show args[0]? = some (.ref b) from hb), hx, hN, h⟩
theorem lw_comes (l : Launch) (hflags : l.flags = flags0) : Comes l x (Jvm.Cond.code x code maxLocals ret :: tables_1) room_1 (fun tb e args s => Calls_1 tb e args s ∧ rest_1 tb e args s ∧ Pre_1 tb e args s)
    (fun _ _ args s o t => lw_Q args s o t) := by
  intro p e ha hc hk s m args below hf hfit hheap happ hpre
  obtain ⟨b, xs, hP⟩ := lw_pre_spec hpre.2.2 hpre.2.1
  obtain ⟨k, o, h1, h2, h3, hQ⟩ := lw_walk l hflags b xs p e ha hc hk s m args below hf ((Spec.applies_iff_loose hf).mp happ).1 hP trivial
  exact ⟨k, o, h1, h2, h3, hQ⟩
theorem lw_frame {s t : State} {o : Outcome} {args : Array Value} (h : Framed s o t [] 45 1986) :
    Framed s o t (fieldLocs frame_1_writes args s ++ arrayLocs frame_1_arrays args s ++ staticLocs frame_1_statics s) 45 1986 := h
theorem lw_limb (L : Cond) (hL : ∀ (args : Array Value) (s t : State), L.after args s (.returned (some (.int 1))) t = true) :
    ArmFor flags0 classFile x code maxLocals ret World_1 tables_1 room_1 Calls_1 rest_1 Pre_1
      (fun tb e a s o t => postC L tb e a s o t ∧ Framed s o t (fieldLocs frame_1_writes a s ++ arrayLocs frame_1_arrays a s ++ staticLocs frame_1_statics s) 45 1986) := by
  intro l hflags _ _ p e ha hc hk s m args below hf hfit hheap happ hpre
  obtain ⟨k, o, h1, h2, h3, rfl, hF⟩ := lw_comes l hflags p e ha hc hk s m args below hf hfit hheap happ hpre
  exact ⟨k, _, h1, h2, h3, hL args s _, lw_frame hF⟩
theorem i_vc : Claimed_1_1 ∧ Claimed_1_2 := ⟨lw_limb limb_1_1 (fun args s t => by simp [limb_1_1, Cond.after, Cond.holds, Cond.value]), lw_limb limb_1_2 (fun args s t => Cond.after_iff.mpr (by
  first | (rw [show limb_1_2 = Cond.eq .result (.int 1) from rfl, Cond.eq_ints (x := 1) (y := 1) rfl rfl]; simp; done) | (simp [limb_1_2, Cond.value, Term.eval]; done)))⟩
