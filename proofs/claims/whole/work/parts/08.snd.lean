theorem a_ln_inv {len n : Nat} {o : Option aO} {q : aO} (h : a_ln len n o = some q) : len = n ∧ o = some q := by
  unfold a_ln at h; split at h
  · exact ⟨by assumption, h⟩
  · cases h
theorem a_i1_inv {st : List Value} {k : Int32 → List Value → Option aO} {q : aO} (h : a_i1 st k = some q) : ∃ (x : Int32) (r : List Value), st = .int x :: r ∧ k x r = some q := by
  unfold a_i1 at h; split at h
  · exact ⟨_, _, rfl, h⟩
  · cases h
theorem a_r1_inv {st : List Value} {k : Nat → List Value → Option aO} {q : aO} (h : a_r1 st k = some q) : ∃ (x : Nat) (r : List Value), st = .ref x :: r ∧ k x r = some q := by
  unfold a_r1 at h; split at h
  · exact ⟨_, _, rfl, h⟩
  · cases h
theorem a_l1_inv {st : List Value} {k : Int64 → List Value → Option aO} {q : aO} (h : a_l1 st k = some q) : ∃ (x : Int64) (r : List Value), st = .long x :: r ∧ k x r = some q := by
  unfold a_l1 at h; split at h
  · exact ⟨_, _, rfl, h⟩
  · cases h
theorem a_i2_inv {st : List Value} {k : Int32 → Int32 → List Value → Option aO} {q : aO} (h : a_i2 st k = some q) : ∃ x y r, st = .int y :: .int x :: r ∧ k x y r = some q := by
  obtain ⟨y, r, e1, h1⟩ := a_i1_inv h
  obtain ⟨x, r2, e2, h2⟩ := a_i1_inv h1
  exact ⟨x, y, r2, by rw [e1, e2], h2⟩
theorem a_l2_inv {st : List Value} {k : Int64 → Int64 → List Value → Option aO} {q : aO} (h : a_l2 st k = some q) : ∃ x y r, st = .long y :: .long x :: r ∧ k x y r = some q := by
  obtain ⟨y, r, e1, h1⟩ := a_l1_inv h
  obtain ⟨x, r2, e2, h2⟩ := a_l1_inv h1
  exact ⟨x, y, r2, by rw [e1, e2], h2⟩
theorem a_g_inv {c : Prop} {dc : Decidable c} {o : Option aO} {q : aO} (h : @a_g c dc o = some q) : c ∧ o = some q := by
  unfold a_g at h; split at h
  · exact ⟨by assumption, h⟩
  · cases h
theorem a_nx_inv {pc : Nat} {L st : List Value} {S : aS} {G : aG} {pc' : Nat} {L' st' : List Value} {S' : aS} {G' : aG} (h : a_nx pc L st S G = some (.inl (pc', L', st', S', G'))) : pc = pc' ∧ L = L' ∧ st = st' ∧ S = S' ∧ G = G' := by
  cases h; exact ⟨rfl, rfl, rfl, rfl, rfl⟩
theorem a_jp_inv {pc : Nat} {off : Int} {k : Nat → Option aO} {q : aO} (h : a_jp pc off k = some q) : ∃ t : Nat, (pc : Int) + off = (t : Int) ∧ k t = some q := by
  unfold a_jp at h; split at h
  · refine ⟨a_tg pc off, ?_, h⟩
    unfold a_tg
    omega
  · cases h
theorem a_st_inv {L : List Value} {i : Nat} {v : Value} {k : List Value → Option aO} {q : aO} (h : a_st L i v k = some q) : (i < L.length ∧ (i = 0 ∨ (L.getD (i - 1) .null).category = 1)) ∧ k (L.set i v) = some q := by
  unfold a_st at h; split at h
  · exact ⟨by assumption, h⟩
  · cases h
theorem a_st2_inv {L : List Value} {i : Nat} {v : Value} {k : List Value → Option aO} {q : aO} (h : a_st2 L i v k = some q) : (i + 1 < L.length ∧ (i = 0 ∨ (L.getD (i - 1) .null).category = 1)) ∧ k ((L.set i v).set (i + 1) .null) = some q := by
  unfold a_st2 at h; split at h
  · exact ⟨by assumption, h⟩
  · cases h
-- what stands outside our cells: the script, the two static rows, the nest's link
def a_For (E : aE) (U : State) (H : Heap) : Prop := va_T .int (e_ad E 1000) (e_L E) (fun j => .int (e_xs E j)) (e_A E) U H ∧ va_Z RX5 "FACTORIALS" "[I" (.ref (e_ad E 1002)) (e_A E) U H ∧ va_T .int (e_ad E 1002) 6 (fun j => .int (a_fact j)) (e_A E) U H ∧ va_Z RX5 "FIVES" "[J" (.ref (e_ad E 1003)) (e_A E) U H ∧ va_T .long (e_ad E 1003) 4 (fun j => .long (a_five j)) (e_A E) U H ∧ va_Nw (.methodLinkNest RX3 77 yX5_isFigure RX5) U
theorem a_For.kept {E : aE} {U : State} {H H1 : Heap} (h : a_For E U H) (hq : ∀ a : Nat, a < H.size → ¬ e_A E a → H1[a]? = H[a]?) : a_For E U H1 := ⟨h.1.kept hq, h.2.1.kept hq, h.2.2.1.kept hq, h.2.2.2.1.kept hq, h.2.2.2.2.1.kept hq, h.2.2.2.2.2⟩
theorem a_For.warm {E : aE} {s U : State} {H : Heap} (hW : s.WarmedH U.vm) (h : a_For E s H) : a_For E U H := ⟨h.1.moved hW.alike, h.2.1.moved hW.alike, h.2.2.1.moved hW.alike, h.2.2.2.1.moved hW.alike, h.2.2.2.2.1.moved hW.alike, va_Nw.warmM hW h.2.2.2.2.2⟩
theorem a_For.same {E : aE} {s U : State} {H : Heap} (hv : s.vm = U.vm) (h : a_For E s H) : a_For E U H := ⟨h.1.moved (hv ▸ Vm.Alike.refl s.vm), h.2.1.moved (hv ▸ Vm.Alike.refl s.vm), h.2.2.1.moved (hv ▸ Vm.Alike.refl s.vm), h.2.2.2.1.moved (hv ▸ Vm.Alike.refl s.vm), h.2.2.2.2.1.moved (hv ▸ Vm.Alike.refl s.vm), va_Nw.same rfl hv h.2.2.2.2.2⟩
/-- the addresses are apart and ours; the script isn't too long -/
def a_De (E : aE) : Prop := (∀ i j, i < 45 → j < 45 → e_ad E i = e_ad E j → i = j) ∧ (∀ k, k < 45 → e_A E (e_ad E k)) ∧ e_L E ≤ 2560
theorem a_De.ws {E : aE} (h : a_De E) (S : aS) (G : aG) : va_D (e_A E) (a_ws E S G) := by
  have key : ∀ (k : Nat) (q : Nat × va_E), (a_ws E S G)[k]? = some q → k < 45 ∧ q.1 = e_ad E k := by
    intro k q hk
    have hl := (List.getElem?_eq_some_iff.mp hk).1
    have hl : k < 45 := by simpa [a_ws] using hl
    rw [a_ws_at E S G hl] at hk
    cases hk
    exact ⟨hl, rfl⟩
  refine ⟨fun i j x y hx hy hxy => ?_, fun k q hk => ?_⟩
  · obtain ⟨h1, h2⟩ := key i x hx
    obtain ⟨h3, h4⟩ := key j y hy
    exact h.1 i j h1 h3 (by rw [← h2, ← h4]; exact hxy)
  · obtain ⟨h1, h2⟩ := key k q hk
    rw [h2]
    exact h.2.1 k h1
def a_St (E : aE) (S : aS) : Prop := S 1000 = e_xs E ∧ S 1001 0 = nI (e_L E)
theorem a_St.wr {E : aE} {S : aS} (h : a_St E S) {k : Nat} (hk : k < 45) (f : Nat → Int32) : a_St E (a_wr S k f) := ⟨by rw [a_wr_ne _ _ (by omega)]; exact h.1, by rw [a_wr_ne _ _ (by omega)]; exact h.2⟩
/-- the frame's fixed part -/
def a_Cx (E : aE) (m : aM) (R : Room) (p : Program) (s : State) (mid : MethodId) (args : Array Value) (meth : Method) (c : Code) : Prop :=
  p.tables.exec = Jvm.exec ∧ c.code = m.2.2.1 ∧ c.maxLocals = m.2.2.2.1 ∧ meth.sig.returnType = m.2.2.2.2.1 ∧ meth.locks = false ∧ s.vm.findClass (a_cn m.1) = some mid.cls ∧ (∀ w ∈ a_T0, w.before args s = true) ∧ va_K E.1 vwCl (e_tys E) s ∧ a_For E s s.heap ∧ m.2.2.2.2.2.1 ≤ R.frames ∧ m.2.2.2.2.2.2 ≤ R.locals
def a_rt (m : aM) (pc : Nat) (v : Option Value) : Prop := match v with
  | some (.int x) => a_okr (.int x) m = true ∧ decode m.2.2.1 pc = .ok (.ireturn, 1)
  | some (.long x) => a_okr (.long x) m = true ∧ decode m.2.2.1 pc = .ok (.lreturn, 1)
  | some (.ref x) => a_okr (.ref x) m = true ∧ decode m.2.2.1 pc = .ok (.areturn, 1)
  | none => m.2.2.2.2.1 = none ∧ decode m.2.2.1 pc = .ok (.return_, 1)
  | _ => False
def a_Rt (E : aE) (l : Launch) (m : aM) (p : Program) (e : Env) (R : Room) (s : State) (mid : MethodId) (args : Array Value) (below : List Frame) (meth : Method) (c : Code) (cells slots : Nat) (Qw : State → Prop) (Q : aQ) : Prop :=
  ∀ (v : Option Value) (S' : aS) (G' : aG) (H' : Heap) (locs' : List Loc) (ls' : Array Slot) (pc' : Nat), Q v S' G' → a_St E S' → va_P E.1 vwCl (a_ws E S' G') H' → va_S (e_A E) s.heap H' locs' → a_rt m pc' v → W p l e R s mid args below meth c H' locs' cells slots Qw (F0 mid pc' ls' (v.toList.map (a_tr E)))
/-- what goes on behind a step -/
def a_Kt (E : aE) (l : Launch) (m : aM) (p : Program) (e : Env) (R : Room) (s : State) (mid : MethodId) (args : Array Value) (below : List Frame) (meth : Method) (c : Code) (cells slots : Nat) (Qw : State → Prop) (pc : Nat) (L st : List Value) (S : aS) (G : aG) : Prop :=
  ∀ (H : Heap) (locs : List Loc) (ls : Array Slot), a_St E S → va_P E.1 vwCl (a_ws E S G) H → va_S (e_A E) s.heap H locs → a_loc E ls m.2.2.2.1 L → W p l e R s mid args below meth c H locs cells slots Qw (F0 mid pc ls (st.map (a_tr E)))
theorem a_words_tr (E : aE) (r : List Value) : ((r.map (a_tr E)).map fun v => v.category).sum = a_words r := by
  unfold a_words
  rw [List.map_map]
  congr 2
  funext v
  exact a_tr_cat E v
theorem a_inv_not (m : aM) (k : Nat) (kinds : List Nat) (x : Nat) (st : List Value) (q : Nat × List Value × List Value × aS × aG) : ¬ a_inv m k kinds x st = some (.inl q) := by
  intro h
  unfold a_inv at h
  split at h
  · split at h
    · split at h
      · split at h
        · split at h
          · obtain ⟨-, h⟩ := a_g_inv h; cases h
          · cases h
          · cases h
        · cases h
      · cases h
    · cases h
  · cases h
section
variable {E : aE} {l : Launch} {m : aM} {p : Program} {e : Env} {R : Room} {s : State} {mid : MethodId} {args : Array Value} {below : List Frame} {meth : Method} {c : Code} {cells slots : Nat} {Qw : State → Prop}
theorem a_row {S : aS} {G : aG} {H : Heap} (hP : va_P E.1 vwCl (a_ws E S G) H) {k : Nat} (h : 0 < a_len S k) (h1 : k ≠ 1000) (h2 : k ≠ 1002) : k < 45 ∧ (a_ws E S G)[k]? = some (e_ad E k, .inl (E.2.1, a_len S k, .inl (S k))) := by
  obtain ⟨h3, h4, h5⟩ := a_len_row h h1 h2
  exact ⟨h3, by rw [a_ws_at E S G h3, h5, h4]⟩
set_option maxHeartbeats 4000000 in
set_option maxRecDepth 10000 in
theorem a_ins_next (hDe : a_De E) (C : a_Cx E m R p s mid args meth c) (hcl : cells ≤ R.cells) (hsl : slots ≤ R.slots) {pc : Nat} {L st : List Value} {S : aS} {G : aG} {i : ClassFile.Instr} {len : Nat} {pc' : Nat} {L' st' : List Value} {S' : aS} {G' : aG}
    (hd : decode m.2.2.1 pc = .ok (i, len)) (h : a_ins m pc L st S G i len = some (.inl (pc', L', st', S', G'))) (hk : a_Kt E l m p e R s mid args below meth c cells slots Qw pc' L' st' S' G') : a_Kt E l m p e R s mid args below meth c cells slots Qw pc L st S G := by
  obtain ⟨hx, hb, hml, hr, hlk, hown, hts, hK, hF, hfr, hlo⟩ := C
  intro H locs ls hSt hP hS hl
  have hD := hDe.ws S G
  cases i with
  | iconst n =>
    obtain ⟨rfl, h_1⟩ := a_ln_inv h
    obtain ⟨rfl, rfl, rfl, rfl, rfl⟩ := a_nx_inv h_1
    exact lv_iconst hx hb hd rfl (hk H locs ls hSt hP hS hl)
  | bipush n =>
    obtain ⟨rfl, h_1⟩ := a_ln_inv h
    obtain ⟨rfl, rfl, rfl, rfl, rfl⟩ := a_nx_inv h_1
    exact lv_bipush hx hb hd rfl (hk H locs ls hSt hP hS hl)
  | sipush n =>
    obtain ⟨rfl, h_1⟩ := a_ln_inv h
    obtain ⟨rfl, rfl, rfl, rfl, rfl⟩ := a_nx_inv h_1
    exact lv_sipush hx hb hd rfl (hk H locs ls hSt hP hS hl)
  | lconst n =>
    obtain ⟨rfl, h_1⟩ := a_ln_inv h
    obtain ⟨rfl, rfl, rfl, rfl, rfl⟩ := a_nx_inv h_1
    exact lv_lconst hx hb hd rfl (hk H locs ls hSt hP hS hl)
  | iload_n k =>
    obtain ⟨rfl, h_1⟩ := a_ln_inv h
    obtain ⟨x, r, hq, h_2⟩ := a_i1_inv h_1
    obtain ⟨rfl, rfl, rfl, rfl, rfl⟩ := a_nx_inv h_2
    exact lv_iload_n hx hb hd rfl (a_loc_at hl (List.cons.inj hq).1 (by intro z; cases z)) (hk H locs ls hSt hP hS hl)
  | iload k =>
    obtain ⟨rfl, h_1⟩ := a_ln_inv h
    obtain ⟨x, r, hq, h_2⟩ := a_i1_inv h_1
    obtain ⟨rfl, rfl, rfl, rfl, rfl⟩ := a_nx_inv h_2
    exact lv_iload hx hb hd (a_loc_at hl (List.cons.inj hq).1 (by intro z; cases z)) (hk H locs ls hSt hP hS hl)
  | lload_n k =>
    obtain ⟨rfl, h_1⟩ := a_ln_inv h
    obtain ⟨x, r, hq, h_2⟩ := a_l1_inv h_1
    obtain ⟨rfl, rfl, rfl, rfl, rfl⟩ := a_nx_inv h_2
    exact lv_lload_n hx hb hd rfl (a_loc_at hl (List.cons.inj hq).1 (by intro z; cases z)) (hk H locs ls hSt hP hS hl)
  | lload k =>
    obtain ⟨rfl, h_1⟩ := a_ln_inv h
    obtain ⟨x, r, hq, h_2⟩ := a_l1_inv h_1
    obtain ⟨rfl, rfl, rfl, rfl, rfl⟩ := a_nx_inv h_2
    exact lv_lload hx hb hd (a_loc_at hl (List.cons.inj hq).1 (by intro z; cases z)) (hk H locs ls hSt hP hS hl)
  | aload_n k =>
    obtain ⟨rfl, h_1⟩ := a_ln_inv h
    obtain ⟨x, r, hq, h_2⟩ := a_r1_inv h_1
    obtain ⟨rfl, rfl, rfl, rfl, rfl⟩ := a_nx_inv h_2
    exact lv_aload_n hx hb hd rfl (a_loc_at hl (List.cons.inj hq).1 (by intro z; cases z)) (hk H locs ls hSt hP hS hl)
  | aload k =>
    obtain ⟨rfl, h_1⟩ := a_ln_inv h
    obtain ⟨x, r, hq, h_2⟩ := a_r1_inv h_1
    obtain ⟨rfl, rfl, rfl, rfl, rfl⟩ := a_nx_inv h_2
    exact lv_aload hx hb hd (a_loc_at hl (List.cons.inj hq).1 (by intro z; cases z)) (hk H locs ls hSt hP hS hl)
  | istore_n k =>
    obtain ⟨rfl, h_1⟩ := a_ln_inv h
    obtain ⟨x, r, rfl, h_2⟩ := a_i1_inv h_1
    obtain ⟨hi, h_3⟩ := a_st_inv h_2
    obtain ⟨rfl, rfl, rfl, rfl, rfl⟩ := a_nx_inv h_3
    exact lv_istore_n hx hb hd rfl hl.2 (by rw [← hl.1]; exact hi.1) rfl (fun ls' hl' => hk H locs ls' hSt hP hS (a_loc_st hl.1 hi hl'))
  | istore k =>
    obtain ⟨rfl, h_1⟩ := a_ln_inv h
    obtain ⟨x, r, rfl, h_2⟩ := a_i1_inv h_1
    obtain ⟨hi, h_3⟩ := a_st_inv h_2
    obtain ⟨rfl, rfl, rfl, rfl, rfl⟩ := a_nx_inv h_3
    exact lv_istore hx hb hd hl.2 (by rw [← hl.1]; exact hi.1) rfl (fun ls' hl' => hk H locs ls' hSt hP hS (a_loc_st hl.1 hi hl'))
  | lstore_n k =>
    obtain ⟨rfl, h_1⟩ := a_ln_inv h
    obtain ⟨x, r, rfl, h_2⟩ := a_l1_inv h_1
    obtain ⟨hi, h_3⟩ := a_st2_inv h_2
    obtain ⟨rfl, rfl, rfl, rfl, rfl⟩ := a_nx_inv h_3
    exact lv_lstore_n hx hb hd rfl hl.2 (by rw [← hl.1]; exact hi.1) rfl (fun ls' hl' => hk H locs ls' hSt hP hS (a_loc_st2 hl.1 hi hl'))
  | iinc k n =>
    obtain ⟨rfl, h_1⟩ := a_ln_inv h
    obtain ⟨x, r, hq, h_2⟩ := a_i1_inv h_1
    obtain ⟨hi, h_3⟩ := a_st_inv h_2
    obtain ⟨rfl, rfl, rfl, rfl, rfl⟩ := a_nx_inv h_3
    have hm : (k, Value.int x) ∈ a_al E L := by
      refine (a_al_mem E).mpr ⟨.int x, ?_, (by intro z; cases z), rfl⟩
      have hv := (List.cons.inj hq).1
      unfold a_ld at hv
      rw [List.getD_eq_getElem?_getD] at hv
      cases hx' : L[k]? with
      | none => rw [hx'] at hv; cases hv
      | some w => rw [hx'] at hv; simp at hv; rw [hv]
    obtain ⟨kk, hkk⟩ := List.getElem?_of_mem hm
    exact lv_iinc hx hb hd hl.2 hkk rfl (by rw [← hl.1]; exact hi.1) rfl (fun ls' hl' => hk H locs ls' hSt hP hS (a_loc_st hl.1 hi hl'))
  | iadd =>
    obtain ⟨rfl, h_1⟩ := a_ln_inv h
    obtain ⟨x, y, r, rfl, h_2⟩ := a_i2_inv h_1
    obtain ⟨rfl, rfl, rfl, rfl, rfl⟩ := a_nx_inv h_2
    exact lv_iadd hx hb hd (hk H locs ls hSt hP hS hl)
  | isub =>
    obtain ⟨rfl, h_1⟩ := a_ln_inv h
    obtain ⟨x, y, r, rfl, h_2⟩ := a_i2_inv h_1
    obtain ⟨rfl, rfl, rfl, rfl, rfl⟩ := a_nx_inv h_2
    exact lv_isub hx hb hd (hk H locs ls hSt hP hS hl)
  | imul =>
    obtain ⟨rfl, h_1⟩ := a_ln_inv h
    obtain ⟨x, y, r, rfl, h_2⟩ := a_i2_inv h_1
    obtain ⟨rfl, rfl, rfl, rfl, rfl⟩ := a_nx_inv h_2
    exact lv_imul hx hb hd (hk H locs ls hSt hP hS hl)
  | iand =>
    obtain ⟨rfl, h_1⟩ := a_ln_inv h
    obtain ⟨x, y, r, rfl, h_2⟩ := a_i2_inv h_1
    obtain ⟨rfl, rfl, rfl, rfl, rfl⟩ := a_nx_inv h_2
    exact lv_iand hx hb hd (hk H locs ls hSt hP hS hl)
  | ior =>
    obtain ⟨rfl, h_1⟩ := a_ln_inv h
    obtain ⟨x, y, r, rfl, h_2⟩ := a_i2_inv h_1
    obtain ⟨rfl, rfl, rfl, rfl, rfl⟩ := a_nx_inv h_2
    exact lv_ior hx hb hd (hk H locs ls hSt hP hS hl)
  | ixor =>
    obtain ⟨rfl, h_1⟩ := a_ln_inv h
    obtain ⟨x, y, r, rfl, h_2⟩ := a_i2_inv h_1
    obtain ⟨rfl, rfl, rfl, rfl, rfl⟩ := a_nx_inv h_2
    exact lv_ixor hx hb hd (hk H locs ls hSt hP hS hl)
  | ishl =>
    obtain ⟨rfl, h_1⟩ := a_ln_inv h
    obtain ⟨x, y, r, rfl, h_2⟩ := a_i2_inv h_1
    obtain ⟨rfl, rfl, rfl, rfl, rfl⟩ := a_nx_inv h_2
    exact lv_ishl hx hb hd (hk H locs ls hSt hP hS hl)
  | ishr =>
    obtain ⟨rfl, h_1⟩ := a_ln_inv h
    obtain ⟨x, y, r, rfl, h_2⟩ := a_i2_inv h_1
    obtain ⟨rfl, rfl, rfl, rfl, rfl⟩ := a_nx_inv h_2
    exact lv_ishr hx hb hd (hk H locs ls hSt hP hS hl)
  | iushr =>
    obtain ⟨rfl, h_1⟩ := a_ln_inv h
    obtain ⟨x, y, r, rfl, h_2⟩ := a_i2_inv h_1
    obtain ⟨rfl, rfl, rfl, rfl, rfl⟩ := a_nx_inv h_2
    exact lv_iushr hx hb hd rfl (hk H locs ls hSt hP hS hl)
  | idiv =>
    obtain ⟨rfl, h_1⟩ := a_ln_inv h
    obtain ⟨x, y, r, rfl, h_2⟩ := a_i2_inv h_1
    obtain ⟨hne, h_3⟩ := a_g_inv h_2
    obtain ⟨rfl, rfl, rfl, rfl, rfl⟩ := a_nx_inv h_3
    exact lv_idiv hx hb hd hne (hk H locs ls hSt hP hS hl)
  | irem =>
    obtain ⟨rfl, h_1⟩ := a_ln_inv h
    obtain ⟨x, y, r, rfl, h_2⟩ := a_i2_inv h_1
    obtain ⟨hne, h_3⟩ := a_g_inv h_2
    obtain ⟨rfl, rfl, rfl, rfl, rfl⟩ := a_nx_inv h_3
    exact lv_irem hx hb hd hne (hk H locs ls hSt hP hS hl)
  | ladd =>
    obtain ⟨rfl, h_1⟩ := a_ln_inv h
    obtain ⟨x, y, r, rfl, h_2⟩ := a_l2_inv h_1
    obtain ⟨rfl, rfl, rfl, rfl, rfl⟩ := a_nx_inv h_2
    exact lv_ladd hx hb hd (hk H locs ls hSt hP hS hl)
  | lsub =>
    obtain ⟨rfl, h_1⟩ := a_ln_inv h
    obtain ⟨x, y, r, rfl, h_2⟩ := a_l2_inv h_1
    obtain ⟨rfl, rfl, rfl, rfl, rfl⟩ := a_nx_inv h_2
    exact lv_lsub hx hb hd (hk H locs ls hSt hP hS hl)
  | lmul =>
    obtain ⟨rfl, h_1⟩ := a_ln_inv h
    obtain ⟨x, y, r, rfl, h_2⟩ := a_l2_inv h_1
    obtain ⟨rfl, rfl, rfl, rfl, rfl⟩ := a_nx_inv h_2
    exact lv_lmul hx hb hd (hk H locs ls hSt hP hS hl)
  | land =>
    obtain ⟨rfl, h_1⟩ := a_ln_inv h
    obtain ⟨x, y, r, rfl, h_2⟩ := a_l2_inv h_1
    obtain ⟨rfl, rfl, rfl, rfl, rfl⟩ := a_nx_inv h_2
    exact lv_land hx hb hd (hk H locs ls hSt hP hS hl)
  | lor =>
    obtain ⟨rfl, h_1⟩ := a_ln_inv h
    obtain ⟨x, y, r, rfl, h_2⟩ := a_l2_inv h_1
    obtain ⟨rfl, rfl, rfl, rfl, rfl⟩ := a_nx_inv h_2
    exact lv_lor hx hb hd (hk H locs ls hSt hP hS hl)
  | ldiv =>
    obtain ⟨rfl, h_1⟩ := a_ln_inv h
    obtain ⟨x, y, r, rfl, h_2⟩ := a_l2_inv h_1
    obtain ⟨hne, h_3⟩ := a_g_inv h_2
    obtain ⟨rfl, rfl, rfl, rfl, rfl⟩ := a_nx_inv h_3
    exact lv_ldiv hx hb hd hne (hk H locs ls hSt hP hS hl)
  | lrem =>
    obtain ⟨rfl, h_1⟩ := a_ln_inv h
    obtain ⟨x, y, r, rfl, h_2⟩ := a_l2_inv h_1
    obtain ⟨hne, h_3⟩ := a_g_inv h_2
    obtain ⟨rfl, rfl, rfl, rfl, rfl⟩ := a_nx_inv h_3
    exact lv_lrem hx hb hd hne (hk H locs ls hSt hP hS hl)
  | lshl =>
    obtain ⟨rfl, h_1⟩ := a_ln_inv h
    obtain ⟨y, r, rfl, h_2⟩ := a_i1_inv h_1
    obtain ⟨x, r, rfl, h_3⟩ := a_l1_inv h_2
    obtain ⟨rfl, rfl, rfl, rfl, rfl⟩ := a_nx_inv h_3
    exact lv_lshl hx hb hd rfl (hk H locs ls hSt hP hS hl)
  | lushr =>
    obtain ⟨rfl, h_1⟩ := a_ln_inv h
    obtain ⟨y, r, rfl, h_2⟩ := a_i1_inv h_1
    obtain ⟨x, r, rfl, h_3⟩ := a_l1_inv h_2
    obtain ⟨rfl, rfl, rfl, rfl, rfl⟩ := a_nx_inv h_3
    exact lv_lushr hx hb hd rfl (hk H locs ls hSt hP hS hl)
  | lcmp =>
    obtain ⟨rfl, h_1⟩ := a_ln_inv h
    obtain ⟨x, y, r, rfl, h_2⟩ := a_l2_inv h_1
    obtain ⟨rfl, rfl, rfl, rfl, rfl⟩ := a_nx_inv h_2
    exact W.lcmp hx hb hd (hk H locs ls hSt hP hS hl)
  | ineg =>
    obtain ⟨rfl, h_1⟩ := a_ln_inv h
    obtain ⟨x, r, rfl, h_2⟩ := a_i1_inv h_1
    obtain ⟨rfl, rfl, rfl, rfl, rfl⟩ := a_nx_inv h_2
    exact lv_ineg hx hb hd (hk H locs ls hSt hP hS hl)
  | i2l =>
    obtain ⟨rfl, h_1⟩ := a_ln_inv h
    obtain ⟨x, r, rfl, h_2⟩ := a_i1_inv h_1
    obtain ⟨rfl, rfl, rfl, rfl, rfl⟩ := a_nx_inv h_2
    exact lv_i2l hx hb hd rfl (hk H locs ls hSt hP hS hl)
  | l2i =>
    obtain ⟨rfl, h_1⟩ := a_ln_inv h
    obtain ⟨x, r, rfl, h_2⟩ := a_l1_inv h_1
    obtain ⟨rfl, rfl, rfl, rfl, rfl⟩ := a_nx_inv h_2
    exact lv_l2i hx hb hd rfl (hk H locs ls hSt hP hS hl)
  | dup =>
    obtain ⟨rfl, h_1⟩ := a_ln_inv h
    match st, h_1 with
    | v :: r, h_2 =>
      obtain ⟨hc, h_3⟩ := a_g_inv h_2
      obtain ⟨rfl, rfl, rfl, rfl, rfl⟩ := a_nx_inv h_3
      exact lv_dup hx hb hd (by rw [a_tr_cat]; exact hc) (hk H locs ls hSt hP hS hl)
  | dup2 =>
    obtain ⟨rfl, h_1⟩ := a_ln_inv h
    match st, h_1 with
    | v :: w :: r, h_2 =>
      obtain ⟨hc, h_3⟩ := a_g_inv h_2
      obtain ⟨rfl, rfl, rfl, rfl, rfl⟩ := a_nx_inv h_3
      exact lv_dup2_11 hx hb hd (by rw [a_tr_cat]; exact hc.1) (by rw [a_tr_cat]; exact hc.2) (hk H locs ls hSt hP hS hl)
  | pop =>
    obtain ⟨rfl, h_1⟩ := a_ln_inv h
    match st, h_1 with
    | v :: r, h_2 =>
      obtain ⟨hc, h_3⟩ := a_g_inv h_2
      obtain ⟨rfl, rfl, rfl, rfl, rfl⟩ := a_nx_inv h_3
      exact lv_pop hx hb hd (by rw [a_tr_cat]; exact hc) (hk H locs ls hSt hP hS hl)
  | goto off =>
    obtain ⟨rfl, h_1⟩ := a_ln_inv h
    obtain ⟨t, ht, h_2⟩ := a_jp_inv h_1
    obtain ⟨rfl, rfl, rfl, rfl, rfl⟩ := a_nx_inv h_2
    exact lv_goto hx hb hd ht (hk H locs ls hSt hP hS hl)
  | ifCond cc off =>
    obtain ⟨rfl, h_1⟩ := a_ln_inv h
    obtain ⟨x, r, rfl, h_2⟩ := a_i1_inv h_1
    obtain ⟨t, ht, h_3⟩ := a_jp_inv h_2
    cases cc with
    | eq =>
      refine lv_if_eq hx hb hd ht (fun hc => ?_) (fun hc => ?_)
      · rw [if_pos (by simp [a_cnd, hc])] at h_3
        obtain ⟨rfl, rfl, rfl, rfl, rfl⟩ := a_nx_inv h_3
        exact hk H locs ls hSt hP hS hl
      · rw [if_neg (by simpa [a_cnd] using hc)] at h_3
        obtain ⟨rfl, rfl, rfl, rfl, rfl⟩ := a_nx_inv h_3
        exact hk H locs ls hSt hP hS hl
    | ne =>
      refine lv_if_ne hx hb hd ht (fun hc => ?_) (fun hc => ?_)
      · rw [if_pos (by simp [a_cnd, hc])] at h_3
        obtain ⟨rfl, rfl, rfl, rfl, rfl⟩ := a_nx_inv h_3
        exact hk H locs ls hSt hP hS hl
      · rw [if_neg (by simp [a_cnd, hc])] at h_3
        obtain ⟨rfl, rfl, rfl, rfl, rfl⟩ := a_nx_inv h_3
        exact hk H locs ls hSt hP hS hl
    | lt =>
      refine lv_if_lt hx hb hd ht (fun hc => ?_) (fun hc => ?_)
      · rw [if_pos (by simp [a_cnd, hc])] at h_3
        obtain ⟨rfl, rfl, rfl, rfl, rfl⟩ := a_nx_inv h_3
        exact hk H locs ls hSt hP hS hl
      · rw [if_neg (by simpa [a_cnd] using hc)] at h_3
        obtain ⟨rfl, rfl, rfl, rfl, rfl⟩ := a_nx_inv h_3
        exact hk H locs ls hSt hP hS hl
    | ge =>
      refine lv_if_ge hx hb hd ht (fun hc => ?_) (fun hc => ?_)
      · rw [if_pos (by simp [a_cnd, hc])] at h_3
        obtain ⟨rfl, rfl, rfl, rfl, rfl⟩ := a_nx_inv h_3
        exact hk H locs ls hSt hP hS hl
      · rw [if_neg (by simpa [a_cnd] using hc)] at h_3
        obtain ⟨rfl, rfl, rfl, rfl, rfl⟩ := a_nx_inv h_3
        exact hk H locs ls hSt hP hS hl
    | gt =>
      refine lv_if_gt hx hb hd ht (fun hc => ?_) (fun hc => ?_)
      · rw [if_pos (by simp [a_cnd, hc])] at h_3
        obtain ⟨rfl, rfl, rfl, rfl, rfl⟩ := a_nx_inv h_3
        exact hk H locs ls hSt hP hS hl
      · rw [if_neg (by simpa [a_cnd] using hc)] at h_3
        obtain ⟨rfl, rfl, rfl, rfl, rfl⟩ := a_nx_inv h_3
        exact hk H locs ls hSt hP hS hl
    | le =>
      refine lv_if_le hx hb hd ht (fun hc => ?_) (fun hc => ?_)
      · rw [if_pos (by simp [a_cnd, hc])] at h_3
        obtain ⟨rfl, rfl, rfl, rfl, rfl⟩ := a_nx_inv h_3
        exact hk H locs ls hSt hP hS hl
      · rw [if_neg (by simpa [a_cnd] using hc)] at h_3
        obtain ⟨rfl, rfl, rfl, rfl, rfl⟩ := a_nx_inv h_3
        exact hk H locs ls hSt hP hS hl
  | if_icmp cc off =>
    obtain ⟨rfl, h_1⟩ := a_ln_inv h
    obtain ⟨x, y, r, rfl, h_2⟩ := a_i2_inv h_1
    obtain ⟨t, ht, h_3⟩ := a_jp_inv h_2
    cases cc with
    | eq =>
      refine lv_icmp_eq hx hb hd ht (fun hc => ?_) (fun hc => ?_)
      · rw [if_pos (by simp [a_cnd, hc])] at h_3
        obtain ⟨rfl, rfl, rfl, rfl, rfl⟩ := a_nx_inv h_3
        exact hk H locs ls hSt hP hS hl
      · rw [if_neg (by simpa [a_cnd] using hc)] at h_3
        obtain ⟨rfl, rfl, rfl, rfl, rfl⟩ := a_nx_inv h_3
        exact hk H locs ls hSt hP hS hl
    | ne =>
      refine lv_icmp_ne hx hb hd ht (fun hc => ?_) (fun hc => ?_)
      · rw [if_pos (by simp [a_cnd, hc])] at h_3
        obtain ⟨rfl, rfl, rfl, rfl, rfl⟩ := a_nx_inv h_3
        exact hk H locs ls hSt hP hS hl
      · rw [if_neg (by simp [a_cnd, hc])] at h_3
        obtain ⟨rfl, rfl, rfl, rfl, rfl⟩ := a_nx_inv h_3
        exact hk H locs ls hSt hP hS hl
    | lt =>
      refine lv_icmp_lt hx hb hd ht (fun hc => ?_) (fun hc => ?_)
      · rw [if_pos (by simp [a_cnd, hc])] at h_3
        obtain ⟨rfl, rfl, rfl, rfl, rfl⟩ := a_nx_inv h_3
        exact hk H locs ls hSt hP hS hl
      · rw [if_neg (by simpa [a_cnd] using hc)] at h_3
        obtain ⟨rfl, rfl, rfl, rfl, rfl⟩ := a_nx_inv h_3
        exact hk H locs ls hSt hP hS hl
    | ge =>
      refine lv_icmp_ge hx hb hd ht (fun hc => ?_) (fun hc => ?_)
      · rw [if_pos (by simp [a_cnd, hc])] at h_3
        obtain ⟨rfl, rfl, rfl, rfl, rfl⟩ := a_nx_inv h_3
        exact hk H locs ls hSt hP hS hl
      · rw [if_neg (by simpa [a_cnd] using hc)] at h_3
        obtain ⟨rfl, rfl, rfl, rfl, rfl⟩ := a_nx_inv h_3
        exact hk H locs ls hSt hP hS hl
    | gt =>
      refine lv_icmp_gt hx hb hd ht (fun hc => ?_) (fun hc => ?_)
      · rw [if_pos (by simp [a_cnd, hc])] at h_3
        obtain ⟨rfl, rfl, rfl, rfl, rfl⟩ := a_nx_inv h_3
        exact hk H locs ls hSt hP hS hl
      · rw [if_neg (by simpa [a_cnd] using hc)] at h_3
        obtain ⟨rfl, rfl, rfl, rfl, rfl⟩ := a_nx_inv h_3
        exact hk H locs ls hSt hP hS hl
    | le =>
      refine lv_icmp_le hx hb hd ht (fun hc => ?_) (fun hc => ?_)
      · rw [if_pos (by simp [a_cnd, hc])] at h_3
        obtain ⟨rfl, rfl, rfl, rfl, rfl⟩ := a_nx_inv h_3
        exact hk H locs ls hSt hP hS hl
      · rw [if_neg (by simpa [a_cnd] using hc)] at h_3
        obtain ⟨rfl, rfl, rfl, rfl, rfl⟩ := a_nx_inv h_3
        exact hk H locs ls hSt hP hS hl
  | tableswitch d lo hi offs =>
    obtain ⟨x, r, rfl, h_1⟩ := a_i1_inv h
    by_cases hc : x.toInt < lo ∨ hi < x.toInt
    · rw [if_pos hc] at h_1
      obtain ⟨t, ht, h_2⟩ := a_jp_inv h_1
      obtain ⟨rfl, rfl, rfl, rfl, rfl⟩ := a_nx_inv h_2
      exact lv_tableOut hx hb hd hc ht (hk H locs ls hSt hP hS hl)
    · rw [if_neg hc] at h_1
      cases ho : offs[(x.toInt - lo).toNat]? with
      | none => rw [ho] at h_1; cases h_1
      | some off =>
        rw [ho] at h_1
        obtain ⟨t, ht, h_3⟩ := a_jp_inv h_1
        obtain ⟨rfl, rfl, rfl, rfl, rfl⟩ := a_nx_inv h_3
        exact lv_tableIn hx hb hd (fun z => hc (Or.inl z)) (fun z => hc (Or.inr z)) ho ht (hk H locs ls hSt hP hS hl)
  | lookupswitch d ps =>
    obtain ⟨x, r, rfl, h_1⟩ := a_i1_inv h
    obtain ⟨hp, h_2⟩ := a_g_inv h_1
    obtain ⟨t, ht, h_3⟩ := a_jp_inv h_2
    obtain ⟨rfl, rfl, rfl, rfl, rfl⟩ := a_nx_inv h_3
    exact lv_lookup hx hb hd hp rfl ht (hk H locs ls hSt hP hS hl)
  | ldc_w k =>
    obtain ⟨rfl, h_1⟩ := a_ln_inv h
    cases hv : a_ki m.1 k with
    | none => rw [hv] at h_1; cases h_1
    | some v =>
      rw [hv] at h_1
      obtain ⟨rfl, rfl, rfl, rfl, rfl⟩ := a_nx_inv h_1
      exact lv_ldcw hx hb hown (hts _ (a_kiL_ok _ (a_find_mem _ _ _ _ hv))) hd (hk H locs ls hSt hP hS hl)
  | ldc2_w k =>
    obtain ⟨rfl, h_1⟩ := a_ln_inv h
    cases hv : a_kl m.1 k with
    | none => rw [hv] at h_1; cases h_1
    | some v =>
      rw [hv] at h_1
      obtain ⟨rfl, rfl, rfl, rfl, rfl⟩ := a_nx_inv h_1
      exact lv_ldc2 hx hb hown (hts _ (a_klL_ok _ (a_find_mem _ _ _ _ hv))) hd (hk H locs ls hSt hP hS hl)
  | getstatic k =>
    obtain ⟨rfl, h_1⟩ := a_ln_inv h
    cases hv : a_gs m.1 k with
    | none => rw [hv] at h_1; cases h_1
    | some v =>
      rw [hv] at h_1
      obtain ⟨rfl, rfl, rfl, rfl, rfl⟩ := a_nx_inv h_1
      obtain ⟨hw, hvv⟩ := a_gsL_ok _ (a_find_mem _ _ _ _ hv)
      have hw2 := hts _ hw
      rcases hvv with hvv | hvv
      · have hvv : v = 1002 := hvv
        subst hvv
        exact va_gets hx hb hF.2.1 hS hown hw2 (fun _ h9 => h9) hd (hk H locs ls hSt hP hS hl)
      · have hvv : v = 1003 := hvv
        subst hvv
        exact va_gets hx hb hF.2.2.2.1 hS hown hw2 (fun _ h9 => h9) hd (hk H locs ls hSt hP hS hl)
  | getfield k =>
    obtain ⟨rfl, h_1⟩ := a_ln_inv h
    cases hv : a_fr m.1 k with
    | none => rw [hv] at h_1; cases h_1
    | some cj =>
      obtain ⟨ci, j⟩ := cj
      rw [hv] at h_1
      obtain ⟨a, r, rfl, h_2⟩ := a_r1_inv h_1
      obtain ⟨hc, h_3⟩ := a_g_inv h_2
      obtain ⟨hlt, hj⟩ := a_fr_lt hv
      obtain ⟨CC, TT, NN, f1, f2, f3, f4, f5, f6, f7, f8, f9, f10⟩ := a_okF_all hlt
      have hcl0 : a_cls a < 7 := by rw [hc]; exact hlt
      have ha := a_cls_lt hcl0
      have he : (a_ws E S G)[a]? = some (e_ad E a, .inr (ci, a_fl E S G a ci)) := by rw [a_ws_at E S G ha, a_cell_obj E S G hcl0, hc]
      have hlink := hts _ (a_frL_ok _ (a_find_mem _ _ _ _ hv))
      dsimp only at hlink
      rw [← f2, ← f3] at hlink
      have hjN : j < NN := by rw [← f4]; exact hj
      have hsame : ∀ x, s.fieldFound? (TT j).1 (TT j).2.1 (TT j).2.2.1 = some x → s.fieldFound? CC (TT j).2.1 (TT j).2.2.1 = some x := fun x hx9 => by rw [← f8 j hjN]; exact hx9
      match ht : (a_fs ci)[j]?, h_3 with
      | some 0, h_4 =>
        obtain ⟨rfl, rfl, rfl, rfl, rfl⟩ := a_nx_inv h_4
        exact va_get hx hb hts f5 hown hK hP a he f1 j hjN hlink hsame (a_fl_at E S G ht) hd (hk H locs ls hSt hP hS hl)
      | some 1, h_5 =>
        obtain ⟨rfl, rfl, rfl, rfl, rfl⟩ := a_nx_inv h_5
        exact va_get hx hb hts f5 hown hK hP a he f1 j hjN hlink hsame (a_fl_at E S G ht) hd (hk H locs ls hSt hP hS hl)
      | some 2, h_6 =>
        obtain ⟨rfl, rfl, rfl, rfl, rfl⟩ := a_nx_inv h_6
        exact va_get hx hb hts f5 hown hK hP a he f1 j hjN hlink hsame (a_fl_at E S G ht) hd (hk H locs ls hSt hP hS hl)
  | putfield k =>
    obtain ⟨rfl, h_1⟩ := a_ln_inv h
    cases hv : a_fr m.1 k with
    | none => rw [hv] at h_1; cases h_1
    | some cj =>
      obtain ⟨ci, j⟩ := cj
      rw [hv] at h_1
      dsimp only at h_1
      obtain ⟨hlt, hj⟩ := a_fr_lt hv
      obtain ⟨CC, TT, NN, f1, f2, f3, f4, f5, ⟨ty, f6⟩, f7, f8, f9, f10⟩ := a_okF_all hlt
      have hlink := hts _ (a_frL_ok _ (a_find_mem _ _ _ _ hv))
      dsimp only at hlink
      rw [← f2, ← f3] at hlink
      have hjN : j < NN := by rw [← f4]; exact hj
      have hsame : ∀ x, s.fieldFound? (TT j).1 (TT j).2.1 (TT j).2.2.1 = some x → s.fieldFound? CC (TT j).2.1 (TT j).2.2.1 = some x := fun x hx9 => by rw [← f8 j hjN]; exact hx9
      match ht : (a_fs ci)[j]?, h_1 with
      | some 0, h_2 =>
        obtain ⟨v, r, rfl, h_3⟩ := a_i1_inv h_2
        obtain ⟨a, r, rfl, h_4⟩ := a_r1_inv h_3
        obtain ⟨hc, h_5⟩ := a_g_inv h_4
        obtain ⟨rfl, rfl, rfl, rfl, rfl⟩ := a_nx_inv h_5
        have hcl0 : a_cls a < 7 := by rw [hc]; exact hlt
        have ha := a_cls_lt hcl0
        have he : (a_ws E S G)[a]? = some (e_ad E a, .inr (ci, a_fl E S G a ci)) := by rw [a_ws_at E S G ha, a_cell_obj E S G hcl0, hc]
        obtain ⟨g1, g2⟩ := f9 j hjN ht
        refine va_put (ty := .int) (v := .int v) hx hb hts f5 ty f6 f7 hown hK hP hD hS a he f1 j hjN hlink hsame g2 g1 rfl rfl (by rw [a_fl_len]; exact hj) hd (fun H1 locs1 hP1 _ hS1 => ?_)
        have e1 : (a_ws E S G).set a (e_ad E a, .inr (ci, (a_fl E S G a ci).set j (.int v))) = a_ws E (a_wr S a (upd (S a) j v)) G := by
          refine a_ws_set E ha (fun z hz => a_wr_ne _ _ hz) (fun _ _ => rfl) rfl ?_
          rw [a_cell_obj E _ G hcl0, hc, a_fl_put E S G ht v]
        rw [e1] at hP1
        exact hk H1 locs1 ls (hSt.wr ha _) hP1 hS1 hl
      | some 1, h_6 =>
        obtain ⟨v, r, rfl, h_7⟩ := a_l1_inv h_6
        obtain ⟨a, r, rfl, h_8⟩ := a_r1_inv h_7
        obtain ⟨hc, h_9⟩ := a_g_inv h_8
        obtain ⟨rfl, rfl, rfl, rfl, rfl⟩ := a_nx_inv h_9
        have hcl0 : a_cls a < 7 := by rw [hc]; exact hlt
        have ha := a_cls_lt hcl0
        have he : (a_ws E S G)[a]? = some (e_ad E a, .inr (ci, a_fl E S G a ci)) := by rw [a_ws_at E S G ha, a_cell_obj E S G hcl0, hc]
        obtain ⟨g1, g2⟩ := f10 j hjN ht
        refine va_put (ty := .long) (v := .long v) hx hb hts f5 ty f6 f7 hown hK hP hD hS a he f1 j hjN hlink hsame g2 g1 rfl rfl (by rw [a_fl_len]; exact hj) hd (fun H1 locs1 hP1 _ hS1 => ?_)
        have e1 : (a_ws E S G).set a (e_ad E a, .inr (ci, (a_fl E S G a ci).set j (.long v))) = a_ws E S (a_wr G a v) := by
          refine a_ws_set E ha (fun _ _ => rfl) (fun z hz => a_wr_ne _ _ hz) rfl ?_
          rw [a_cell_obj E _ _ hcl0, hc, a_fl_putL E S G ht (a_fs_one hlt ht) v]
        rw [e1] at hP1
        exact hk H1 locs1 ls hSt hP1 hS1 hl
  | arraylength =>
    obtain ⟨rfl, h_1⟩ := a_ln_inv h
    obtain ⟨a, r, rfl, h_2⟩ := a_r1_inv h_1
    obtain ⟨hp, h_3⟩ := a_g_inv h_2
    obtain ⟨rfl, rfl, rfl, rfl, rfl⟩ := a_nx_inv h_3
    by_cases h1 : a = 1000
    · subst h1
      obtain ⟨cell, g1, g2, g3, g4, g5, g6, g7⟩ := hF.1.kept hS.2.1
      have e1 : a_len S 1000 = e_L E := by unfold a_len; rw [if_pos rfl, hSt.2, nI_clamp (by have := hDe.2.2; omega)]
      exact W.alen hx hb g1 g2 (by rw [g5, e1]) rfl rfl hd (hk H locs ls hSt hP hS hl)
    · by_cases h2 : a = 1002
      · subst h2
        obtain ⟨cell, g1, g2, g3, g4, g5, g6, g7⟩ := hF.2.2.1.kept hS.2.1
        exact W.alen hx hb g1 g2 g5 rfl rfl hd (hk H locs ls hSt hP hS hl)
      · obtain ⟨h3, h4⟩ := a_row hP hp h1 h2
        exact va_alen hx hb hK hP a 0 h4 (ty := .int) rfl rfl hd (hk H locs ls hSt hP hS hl)
  | iaload =>
    obtain ⟨rfl, h_1⟩ := a_ln_inv h
    obtain ⟨i, r, rfl, h_2⟩ := a_i1_inv h_1
    obtain ⟨a, r, rfl, h_3⟩ := a_r1_inv h_2
    obtain ⟨hin, h_4⟩ := a_g_inv h_3
    obtain ⟨rfl, rfl, rfl, rfl, rfl⟩ := a_nx_inv h_4
    have hv : vp_in i (a_len S a) := vp_in_iff.mpr hin
    by_cases h1 : a = 1000
    · subst h1
      obtain ⟨cell, g1, g2, g3, g4, g5, g6, g7⟩ := hF.1.kept hS.2.1
      have e1 : a_len S 1000 = e_L E := by unfold a_len; rw [if_pos rfl, hSt.2, nI_clamp (by have := hDe.2.2; omega)]
      rw [e1] at hv
      have hlt : i.toNatClampNeg < e_L E := Nat.not_le.mp fun q => hv (Or.inr q)
      have e2 : a_get S 1000 i.toNatClampNeg = e_xs E i.toNatClampNeg := by unfold a_get; rw [if_neg (by decide), hSt.1]
      rw [e2] at hk
      exact W.iald (v := .int (e_xs E i.toNatClampNeg)) hx hb g1 g2 g3 (fun q => hv (q.elim Or.inl (fun z => Or.inr (Nat.le_trans g4 z)))) (g6 _ hlt) rfl rfl hd (hk H locs ls hSt hP hS hl)
    · by_cases h2 : a = 1002
      · subst h2
        obtain ⟨cell, g1, g2, g3, g4, g5, g6, g7⟩ := hF.2.2.1.kept hS.2.1
        have hv : vp_in i 6 := hv
        have hlt : i.toNatClampNeg < 6 := Nat.not_le.mp fun q => hv (Or.inr q)
        exact W.iald (v := .int (a_fact i.toNatClampNeg)) hx hb g1 g2 g3 (fun q => hv (q.elim Or.inl (fun z => Or.inr (Nat.le_trans g4 z)))) (g6 _ hlt) rfl rfl hd (hk H locs ls hSt hP hS hl)
      · obtain ⟨h3, h4⟩ := a_row hP (show 0 < a_len S a by omega) h1 h2
        have e2 : a_get S a i.toNatClampNeg = S a i.toNatClampNeg := by unfold a_get; rw [if_neg h2]
        rw [e2] at hk
        exact va_iald hx hb hK hP a 0 h4 rfl hv hd (hk H locs ls hSt hP hS hl)
  | laload =>
    obtain ⟨rfl, h_1⟩ := a_ln_inv h
    obtain ⟨i, r, rfl, h_2⟩ := a_i1_inv h_1
    obtain ⟨a, r, rfl, h_3⟩ := a_r1_inv h_2
    obtain ⟨⟨ha, hin⟩, h_4⟩ := a_g_inv h_3
    obtain ⟨rfl, rfl, rfl, rfl, rfl⟩ := a_nx_inv h_4
    subst ha
    have hv : vp_in i 4 := vp_in_iff.mpr hin
    have hlt : i.toNatClampNeg < 4 := Nat.not_le.mp fun q => hv (Or.inr q)
    obtain ⟨cell, g1, g2, g3, g4, g5, g6, g7⟩ := hF.2.2.2.2.1.kept hS.2.1
    exact W.lald (v := .long (a_five i.toNatClampNeg)) hx hb g1 g2 g3 (fun q => hv (q.elim Or.inl (fun z => Or.inr (Nat.le_trans g4 z)))) (g6 _ hlt) rfl rfl hd (hk H locs ls hSt hP hS hl)
  | baload =>
    obtain ⟨rfl, h_1⟩ := a_ln_inv h
    obtain ⟨i, r, rfl, h_2⟩ := a_i1_inv h_1
    obtain ⟨a, r, rfl, h_3⟩ := a_r1_inv h_2
    obtain ⟨⟨ha, hin⟩, h_4⟩ := a_g_inv h_3
    obtain ⟨rfl, rfl, rfl, rfl, rfl⟩ := a_nx_inv h_4
    subst ha
    exact va_zald hx hb hK hP 41 1 (by rw [a_ws_at E S G (by decide), a_cell_41]) rfl (vp_in_iff.mpr hin) hd (hk H locs ls hSt hP hS hl)
  | iastore =>
    obtain ⟨rfl, h_1⟩ := a_ln_inv h
    obtain ⟨v, r, rfl, h_2⟩ := a_i1_inv h_1
    obtain ⟨i, r, rfl, h_3⟩ := a_i1_inv h_2
    obtain ⟨a, r, rfl, h_4⟩ := a_r1_inv h_3
    obtain ⟨⟨ha, hin⟩, h_5⟩ := a_g_inv h_4
    obtain ⟨rfl, rfl, rfl, rfl, rfl⟩ := a_nx_inv h_5
    have h0 : 0 < a_len S a := by omega
    have n1 : a ≠ 1000 := by omega
    have n2 : a ≠ 1002 := by omega
    obtain ⟨h3, h4⟩ := a_row hP h0 n1 n2
    refine va_iast hx hb hK hP hD hS a 0 h4 rfl (vp_in_iff.mpr hin) hd (fun H1 locs1 hP1 _ hS1 => ?_)
    have e1 : (a_ws E S G).set a (e_ad E a, .inl (E.2.1, a_len S a, .inl (upd (S a) i.toNatClampNeg v))) = a_ws E (a_wr S a (upd (S a) i.toNatClampNeg v)) G := by
      refine a_ws_set E ha (fun z hz => a_wr_ne _ _ hz) (fun _ _ => rfl) rfl ?_
      obtain ⟨-, q1, q2⟩ := a_len_row h0 n1 n2
      rw [q2, q1, a_wr_same]
    rw [e1] at hP1
    exact hk H1 locs1 ls (hSt.wr ha _) hP1 hS1 hl
  | bastore =>
    obtain ⟨rfl, h_1⟩ := a_ln_inv h
    obtain ⟨v, r, rfl, h_2⟩ := a_i1_inv h_1
    obtain ⟨i, r, rfl, h_3⟩ := a_i1_inv h_2
    obtain ⟨a, r, rfl, h_4⟩ := a_r1_inv h_3
    obtain ⟨⟨ha, hin, hv01⟩, h_5⟩ := a_g_inv h_4
    obtain ⟨rfl, rfl, rfl, rfl, rfl⟩ := a_nx_inv h_5
    subst ha
    refine va_zast hx hb hK hP hD hS 41 1 (by rw [a_ws_at E S G (by decide), a_cell_41]) rfl (vp_in_iff.mpr hin) hd (fun H1 locs1 hP1 _ hS1 => ?_)
    have e0 : vp_nar .boolean v = v := by rcases hv01 with rfl | rfl <;> decide
    rw [e0] at hP1
    have e1 : (a_ws E S G).set 41 (e_ad E 41, .inl (E.2.2.1, 2, .inl (upd (S 41) i.toNatClampNeg v))) = a_ws E (a_wr S 41 (upd (S 41) i.toNatClampNeg v)) G := by
      refine a_ws_set E (by decide) (fun z hz => a_wr_ne _ _ hz) (fun _ _ => rfl) rfl ?_
      rw [a_cell_41, a_wr_same]
    rw [e1] at hP1
    exact hk H1 locs1 ls (hSt.wr (by decide) _) hP1 hS1 hl
  | invokevirtual k =>
    obtain ⟨rfl, h_1⟩ := a_ln_inv h
    exact absurd h_1 (a_inv_not _ _ _ _ _ _)
  | invokestatic k =>
    obtain ⟨rfl, h_1⟩ := a_ln_inv h
    cases hac : a_ac m.1 k with
    | some u =>
      rw [hac] at h_1
      obtain ⟨n, r, rfl, h_2⟩ := a_i1_inv h_1
      obtain ⟨dp, r, rfl, h_3⟩ := a_i1_inv h_2
      obtain ⟨b, r, rfl, h_4⟩ := a_r1_inv h_3
      obtain ⟨sp, r, rfl, h_5⟩ := a_i1_inv h_4
      obtain ⟨a, r, rfl, h_6⟩ := a_r1_inv h_5
      obtain ⟨⟨⟨c1, c2, c3⟩, ⟨c4, c5⟩, c6, c7, c8, c9, rfl, c10, c11⟩, h_7⟩ := a_g_inv h_6
      obtain ⟨rfl, rfl, rfl, rfl, rfl⟩ := a_nx_inv h_7
      have na1 : a ≠ 1000 := by omega
      have na2 : a ≠ 1002 := by omega
      have nb1 : b ≠ 1000 := by omega
      have nb2 : b ≠ 1002 := by omega
      obtain ⟨-, ra⟩ := a_row hP c8 na1 na2
      obtain ⟨-, rb⟩ := a_row hP c9 nb1 nb2
      refine va_copyi hx hb (by rw [hml, hl.2.1]) hown (hts _ (a_acL_ok _ (a_find_mem _ _ _ _ hac))) (hts _ a_acW.1) (hts _ a_acW.2) (hts _ a_inS) hK hP hD hS a b 0 0 ra rb rfl rfl rfl c1 c2 c3 c6 c7 (fun _ _ => rfl) (by omega) (by show 0 + 18 ≤ R.locals; omega) hd (fun H1 locs1 hP1 _ hS1 => ?_)
      have e1 : (a_ws E S G).set b (e_ad E b, .inl (E.2.1, a_len S b, .inl (va_cpy (S a) (S b) sp.toNatClampNeg dp.toNatClampNeg n.toNatClampNeg))) = a_ws E (a_wr S b (va_cpy (S a) (S b) sp.toNatClampNeg dp.toNatClampNeg n.toNatClampNeg)) G := by
        refine a_ws_set E c5 (fun z hz => a_wr_ne _ _ hz) (fun _ _ => rfl) rfl ?_
        obtain ⟨-, q1, q2⟩ := a_len_row c9 nb1 nb2
        rw [q2, q1, a_wr_same]
      rw [e1] at hP1
      exact hk H1 locs1 ls (hSt.wr c5 _) hP1 hS1 hl
    | none =>
      rw [hac] at h_1
      cases hmh : a_mh m.1 k with
      | some t =>
        rw [hmh] at h_1
        obtain ⟨hw, ht3⟩ := a_mhL_ok _ (a_find_mem _ _ _ _ hmh)
        have hw2 := hts _ hw
        dsimp only at h_1 ht3 hw2
        unfold a_mth at h_1
        split at h_1
        · rename_i hfr1
          match t, ht3, h_1, hw2 with
          | 0, _, h_8, hw2 =>
            obtain ⟨x, y, r, rfl, h_9⟩ := a_i2_inv h_8
            split at h_9
            · rename_i hlo1
              obtain ⟨rfl, rfl, rfl, rfl, rfl⟩ := a_nx_inv h_9
              exact va_mmax hx hb (by rw [hml, hl.2.1]) hown hw2 (hts _ a_mh0.1) (hts _ a_in8) (hts _ a_mh0.2) (by omega) (by rw [a_words_tr]; omega) hcl hsl hd (hk H locs ls hSt hP hS hl)
            · cases h_9
          | 1, _, h_10, hw2 =>
            obtain ⟨x, y, r, rfl, h_11⟩ := a_i2_inv h_10
            split at h_11
            · rename_i hlo1
              obtain ⟨rfl, rfl, rfl, rfl, rfl⟩ := a_nx_inv h_11
              exact va_mmin hx hb (by rw [hml, hl.2.1]) hown hw2 (hts _ a_mh1.1) (hts _ a_in8) (hts _ a_mh1.2) (by omega) (by rw [a_words_tr]; omega) hcl hsl hd (hk H locs ls hSt hP hS hl)
            · cases h_11
          | 2, _, h_12, hw2 =>
            obtain ⟨x, r, rfl, h_13⟩ := a_i1_inv h_12
            split at h_13
            · rename_i hlo1
              obtain ⟨rfl, rfl, rfl, rfl, rfl⟩ := a_nx_inv h_13
              exact va_mabs hx hb (by rw [hml, hl.2.1]) hown hw2 (hts _ a_mh2.1) (hts _ a_in8) (hts _ a_mh2.2) (by omega) (by rw [a_words_tr]; omega) hcl hsl hd (hk H locs ls hSt hP hS hl)
            · cases h_13
        · cases h_1
      | none =>
        rw [hmh] at h_1
        exact absurd h_1 (a_inv_not _ _ _ _ _ _)
  | ireturn =>
    obtain ⟨rfl, h_1⟩ := a_ln_inv h
    simp only [a_g] at h_1
    split at h_1
    · split at h_1
      · cases h_1
      · cases h_1
    · cases h_1
  | lreturn =>
    obtain ⟨rfl, h_1⟩ := a_ln_inv h
    simp only [a_g] at h_1
    split at h_1
    · split at h_1
      · cases h_1
      · cases h_1
    · cases h_1
  | areturn =>
    obtain ⟨rfl, h_1⟩ := a_ln_inv h
    simp only [a_g] at h_1
    split at h_1
    · split at h_1
      · cases h_1
      · cases h_1
    · cases h_1
  | return_ =>
    obtain ⟨rfl, h_1⟩ := a_ln_inv h
    simp only [a_g] at h_1
    split at h_1
    · split at h_1
      · cases h_1
      · cases h_1
    · cases h_1
  | _ => cases h
end
