/-- never a return, never a call -/
def a_N (o : Option aO) : Prop := ∀ q, o ≠ some (.inr q)
theorem a_N_none : a_N none := fun _ h => by cases h
theorem a_N_nx {pc : Nat} {L st : List Value} {S : aS} {G : aG} : a_N (a_nx pc L st S G) := fun _ h => by cases h
theorem a_N_ln {len n : Nat} {o : Option aO} (h : a_N o) : a_N (a_ln len n o) := by
  unfold a_ln; split
  · exact h
  · exact a_N_none
theorem a_N_i1 {st : List Value} {k : Int32 → List Value → Option aO} (h : ∀ x r, a_N (k x r)) : a_N (a_i1 st k) := by
  unfold a_i1; split
  · exact h _ _
  · exact a_N_none
theorem a_N_r1 {st : List Value} {k : Nat → List Value → Option aO} (h : ∀ x r, a_N (k x r)) : a_N (a_r1 st k) := by
  unfold a_r1; split
  · exact h _ _
  · exact a_N_none
theorem a_N_l1 {st : List Value} {k : Int64 → List Value → Option aO} (h : ∀ x r, a_N (k x r)) : a_N (a_l1 st k) := by
  unfold a_l1; split
  · exact h _ _
  · exact a_N_none
theorem a_N_i2 {st : List Value} {k : Int32 → Int32 → List Value → Option aO} (h : ∀ x y r, a_N (k x y r)) : a_N (a_i2 st k) := a_N_i1 fun _ _ => a_N_i1 fun _ _ => h _ _ _
theorem a_N_l2 {st : List Value} {k : Int64 → Int64 → List Value → Option aO} (h : ∀ x y r, a_N (k x y r)) : a_N (a_l2 st k) := a_N_l1 fun _ _ => a_N_l1 fun _ _ => h _ _ _
theorem a_N_g {c : Prop} {dc : Decidable c} {o : Option aO} (h : a_N o) : a_N (@a_g c dc o) := by
  unfold a_g; split
  · exact h
  · exact a_N_none
theorem a_N_jp {pc : Nat} {off : Int} {k : Nat → Option aO} (h : ∀ t, a_N (k t)) : a_N (a_jp pc off k) := by
  unfold a_jp; split
  · exact h _
  · exact a_N_none
theorem a_N_st {L : List Value} {i : Nat} {v : Value} {k : List Value → Option aO} (h : ∀ L, a_N (k L)) : a_N (a_st L i v k) := by
  unfold a_st; split
  · exact h _
  · exact a_N_none
theorem a_N_st2 {L : List Value} {i : Nat} {v : Value} {k : List Value → Option aO} (h : ∀ L, a_N (k L)) : a_N (a_st2 L i v k) := by
  unfold a_st2; split
  · exact h _
  · exact a_N_none
theorem a_N_mth {m : aM} {t pc : Nat} {L st : List Value} {S : aS} {G : aG} : a_N (a_mth m t pc L st S G) := by
  unfold a_mth
  repeat' first
    | exact a_N_nx
    | exact a_N_none
    | refine a_N_i2 (fun _ _ _ => ?_)
    | refine a_N_i1 (fun _ _ => ?_)
    | split
/-- only the calls and the returns leave the frame -/
def a_lv : ClassFile.Instr → Bool
  | .invokevirtual _ | .invokestatic _ | .ireturn | .lreturn | .areturn | .return_ => true
  | _ => false
set_option maxHeartbeats 4000000 in
theorem a_N_ins {m : aM} {pc : Nat} {L st : List Value} {S : aS} {G : aG} {i : ClassFile.Instr} {len : Nat} (hi : a_lv i = false) : a_N (a_ins m pc L st S G i len) := by
  cases i <;> first
    | (cases hi; done)
    | exact a_N_none
    | (unfold a_ins; dsimp only
       repeat' first
         | exact a_N_nx
         | exact a_N_none
         | refine a_N_ln ?_
         | refine a_N_i2 (fun _ _ _ => ?_)
         | refine a_N_l2 (fun _ _ _ => ?_)
         | refine a_N_i1 (fun _ _ => ?_)
         | refine a_N_r1 (fun _ _ => ?_)
         | refine a_N_l1 (fun _ _ => ?_)
         | refine a_N_g ?_
         | refine a_N_jp (fun _ => ?_)
         | refine a_N_st (fun _ => ?_)
         | refine a_N_st2 (fun _ => ?_)
         | split)
theorem a_inv_nret {m : aM} {k : Nat} {kinds : List Nat} {x : Nat} {st : List Value} {v : Option Value} : ¬ a_inv m k kinds x st = some (.inr (.inl v)) := by
  intro h
  unfold a_inv at h
  split at h
  · split at h
    · split at h
      · split at h
        · split at h
          · obtain ⟨-, h⟩ := a_g_inv h; cases h
          · cases h
          · cases h
        · cases h
      · cases h
    · cases h
  · cases h
theorem a_ins_ret {m : aM} {pc : Nat} {L st : List Value} {S : aS} {G : aG} {i : ClassFile.Instr} {len : Nat} {v : Option Value} (hd : decode m.2.2.1 pc = .ok (i, len)) (h : a_ins m pc L st S G i len = some (.inr (.inl v))) : st = v.toList ∧ a_rt m pc v := by
  by_cases hi : a_lv i = false
  · exact absurd h (a_N_ins hi _)
  · cases i with
    | ireturn =>
      obtain ⟨rfl, h1⟩ := a_ln_inv h
      split at h1
      · obtain ⟨hc, h2⟩ := a_g_inv h1
        cases h2
        exact ⟨rfl, hc, hd⟩
      · cases h1
    | lreturn =>
      obtain ⟨rfl, h1⟩ := a_ln_inv h
      split at h1
      · obtain ⟨hc, h2⟩ := a_g_inv h1
        cases h2
        exact ⟨rfl, hc, hd⟩
      · cases h1
    | areturn =>
      obtain ⟨rfl, h1⟩ := a_ln_inv h
      split at h1
      · obtain ⟨hc, h2⟩ := a_g_inv h1
        cases h2
        exact ⟨rfl, hc, hd⟩
      · cases h1
    | return_ =>
      obtain ⟨rfl, h1⟩ := a_ln_inv h
      split at h1
      · obtain ⟨hc, h2⟩ := a_g_inv h1
        cases h2
        exact ⟨rfl, hc, hd⟩
      · cases h1
    | invokevirtual k =>
      obtain ⟨rfl, h1⟩ := a_ln_inv h
      exact absurd h1 a_inv_nret
    | invokestatic k =>
      obtain ⟨rfl, h1⟩ := a_ln_inv h
      split at h1
      · exfalso
        revert h1
        refine (show a_N _ from ?_) _
        repeat' first
          | exact a_N_nx
          | refine a_N_i1 (fun _ _ => ?_)
          | refine a_N_r1 (fun _ _ => ?_)
          | refine a_N_g ?_
      · split at h1
        · exact absurd h1 (a_N_mth _)
        · exact absurd h1 a_inv_nret
    | _ => exact absurd rfl hi
theorem a_ins_call {m : aM} {pc : Nat} {L st : List Value} {S : aS} {G : aG} {i : ClassFile.Instr} {len : Nat} {m' : aM} {as r : List Value} (h : a_ins m pc L st S G i len = some (.inr (.inr (m', as, r)))) : (∃ k, i = .invokevirtual k ∧ len = 3 ∧ a_inv m k [1] 1 st = some (.inr (.inr (m', as, r)))) ∨ (∃ k, i = .invokestatic k ∧ len = 3 ∧ a_inv m k [0, 2] 0 st = some (.inr (.inr (m', as, r)))) := by
  by_cases hi : a_lv i = false
  · exact absurd h (a_N_ins hi _)
  · cases i with
    | ireturn =>
      obtain ⟨rfl, h1⟩ := a_ln_inv h
      split at h1
      · obtain ⟨hc, h2⟩ := a_g_inv h1
        cases h2
      · cases h1
    | lreturn =>
      obtain ⟨rfl, h1⟩ := a_ln_inv h
      split at h1
      · obtain ⟨hc, h2⟩ := a_g_inv h1
        cases h2
      · cases h1
    | areturn =>
      obtain ⟨rfl, h1⟩ := a_ln_inv h
      split at h1
      · obtain ⟨hc, h2⟩ := a_g_inv h1
        cases h2
      · cases h1
    | return_ =>
      obtain ⟨rfl, h1⟩ := a_ln_inv h
      split at h1
      · obtain ⟨hc, h2⟩ := a_g_inv h1
        cases h2
      · cases h1
    | invokevirtual k =>
      obtain ⟨e, h1⟩ := a_ln_inv h
      exact Or.inl ⟨k, rfl, e, h1⟩
    | invokestatic k =>
      obtain ⟨e, h1⟩ := a_ln_inv h
      split at h1
      · exfalso
        revert h1
        refine (show a_N _ from ?_) _
        repeat' first
          | exact a_N_nx
          | refine a_N_i1 (fun _ _ => ?_)
          | refine a_N_r1 (fun _ _ => ?_)
          | refine a_N_g ?_
      · split at h1
        · exact absurd h1 (a_N_mth _)
        · exact Or.inr ⟨k, rfl, e, h1⟩
    | _ => exact absurd rfl hi
/-- the words of every method: its code, and all that the tables say -/
def a_wm (m : aM) : List Cond := .code m.2.1 m.2.2.1 m.2.2.2.1 m.2.2.2.2.1 :: a_T0
def a_rm (m : aM) : Room := { frames := m.2.2.2.2.2.1, cells := 0, slots := 0, locals := m.2.2.2.2.2.2 }
/-- a contract's start and end, in the abstract machine's words -/
def a_Bw (E : aE) (S : aS) (G : aG) (U : State) : Prop := a_St E S ∧ va_P E.1 vwCl (a_ws E S G) U.heap ∧ va_K E.1 vwCl (e_tys E) U ∧ a_For E U U.heap
def a_Qc (E : aE) (m : aM) (Q : aQ) : Array Value → State → Outcome → State → Prop := fun _ st oc t =>
  (∃ (v : Option Value) (S' : aS) (G' : aG) (pc : Nat), oc = .returned (v.map (a_tr E)) ∧ Q v S' G' ∧ a_rt m pc v ∧ a_St E S' ∧ va_P E.1 vwCl (a_ws E S' G') t.heap) ∧ va_F (e_A E) st t
def a_Snd (E : aE) (l : Launch) (n : Nat) : Prop := ∀ (m : aM) (pc : Nat) (L st : List Value) (S : aS) (G : aG) (Q : aQ), aT n m pc L st S G Q → ∀ (p : Program) (e : Env) (R : Room) (s : State) (mid : MethodId) (args : Array Value) (below : List Frame) (meth : Method) (c : Code) (cells slots : Nat) (Qw : State → Prop), a_Cx E m R p s mid args meth c → cells ≤ R.cells → slots ≤ R.slots → a_Rt E l m p e R s mid args below meth c cells slots Qw Q → a_Kt E l m p e R s mid args below meth c cells slots Qw pc L st S G
theorem a_good (m : aM) (h : a_okM m) : GoodIn a_T0 (a_wm m) := by
  have hg : ∀ w ∈ a_T0, w ∈ a_T0 ∧ ((w.onTables && w.keeps) = true ∨ ∃ ty, w = .arrayClass ty) := fun w hw => ⟨hw, good_of_word (List.mem_filter.mp hw).2⟩
  intro w hw
  rcases List.mem_cons.mp hw with rfl | hw
  · exact hg _ h.1
  · exact hg w hw
set_option maxHeartbeats 4000000 in
theorem a_met {E : aE} {l : Launch} {n : Nat} (hn : a_Snd E l n) (m : aM) (hm : a_okM m) (as : List Value) (hlen : (a_ex as).length ≤ m.2.2.2.1) (S : aS) (G : aG) (Q : aQ) (h : aT n m 0 (a_ent m as) [] S G Q) : Met l m.2.1 (a_wm m) (a_rm m) (va_Pc (as.map (a_tr E)) (a_Bw E S G)) (a_Qc E m Q) 0 0 (e_A E) := by
  refine Met.ofW (cc := m.2.2.1) (maxL := m.2.2.2.1) (ret := m.2.2.2.2.1) hm.2.2.1 rfl ?_
  intro p e s mid args below meth c s₁ B hml hv
  obtain ⟨rfl, hSt, hP, hK, hF⟩ := hv
  have hts := atoms_spec (ws := a_wm m) B.pre
  have hown : s.vm.findClass m.2.1.cls = some mid.cls := findClass_of_methodNamed B.named
  rw [hm.2.1] at hown
  have C : a_Cx E m (headSpec (a_wm m) (a_rm m)).room p s mid (as.map (a_tr E)).toArray meth c := ⟨B.exec, B.bytes, hml, B.returns, B.notSynchronized, hown, fun w hw => hts w (List.mem_cons_of_mem _ hw), hK, hF, Nat.le_refl _, Nat.le_refl _⟩
  rw [lg_entry_eq]
  have hlk := B.notSynchronized
  refine hn m 0 (a_ent m as) [] S G Q h p e _ s mid _ below meth c 0 0 _ C (Nat.le_refl _) (Nat.le_refl _) ?_ s.heap [] _ hSt hP va_S.rf (a_loc_entry E m as hlen)
  intro v S' G' H' locs' ls' pc' hq hSt' hP' hS' hrt
  have hend : ∀ t : State, t.heap = H' → s.WarmedH t.vm → a_Qc E m Q (as.map (a_tr E)).toArray s (.returned (v.map (a_tr E))) t := fun t ht _ => ⟨⟨v, S', G', pc', rfl, hq, hrt, hSt', by rw [ht]; exact hP'⟩, hS'.F ht⟩
  match v, hrt, hend with
  | some (.int x), hrt, hend =>
    obtain ⟨ho, hdg⟩ := hrt
    unfold a_okr at ho
    cases hr : m.2.2.2.2.1 with
    | none => rw [hr] at ho; cases ho
    | some ty =>
      rw [hr] at ho
      cases ty with
      | int => exact W.iret B.exec B.bytes (by rw [B.returns, hr]) hend hS'.2.2 hdg hlk
      | boolean =>
        have ho : x = 0 ∨ x = 1 := by simpa using ho
        exact W.zret (ty := .boolean) B.exec B.bytes (by rw [B.returns, hr]) (by rcases ho with rfl | rfl <;> decide) hend hS'.2.2 hdg hlk
      | _ => cases ho
  | some (.long x), hrt, hend =>
    obtain ⟨ho, hdg⟩ := hrt
    unfold a_okr at ho
    cases hr : m.2.2.2.2.1 with
    | none => rw [hr] at ho; cases ho
    | some ty =>
      rw [hr] at ho
      cases ty with
      | long => exact W.lret B.exec B.bytes (by rw [B.returns, hr]) hend hS'.2.2 hdg hlk
      | _ => cases ho
  | some (.ref x), hrt, hend =>
    obtain ⟨ho, hdg⟩ := hrt
    unfold a_okr at ho
    cases hr : m.2.2.2.2.1 with
    | none => rw [hr] at ho; cases ho
    | some ty =>
      rw [hr] at ho
      cases ty with
      | object nm => exact W.aret B.exec B.bytes (by rw [B.returns, hr]) (Or.inl ⟨nm, rfl⟩) (Or.inr ⟨_, rfl⟩) hend hS'.2.2 hdg hlk
      | _ => cases ho
  | none, hrt, hend =>
    obtain ⟨ho, hdg⟩ := hrt
    exact W.vret B.exec B.bytes (by rw [B.returns, ho]) hend hS'.2.2 hdg hlk
theorem a_take_inv : ∀ (n : Nat) (acc st as r : List Value), a_take n acc st = some (as, r) → ∃ xs, xs.length = n ∧ as = xs ++ acc ∧ st = xs.reverse ++ r
  | 0, acc, st, as, r, h => by
    cases h
    exact ⟨[], rfl, rfl, rfl⟩
  | n + 1, acc, [], as, r, h => by cases h
  | n + 1, acc, v :: st, as, r, h => by
    obtain ⟨xs, h1, h2, h3⟩ := a_take_inv n (v :: acc) st as r h
    exact ⟨xs ++ [v], by simp [h1], by simp [h2], by simp [h3]⟩
theorem a_call {p : Program} {l : Launch} {e : Env} {R : Room} {s : State} {m : MethodId} {args : Array Value} {below : List Frame} {meth : Method} {c : Code} {H : Heap} {locs : List Loc} {cells slots : Nat} {Q : State → Prop} {A : Nat → Prop} {H0 : Heap} {pc : Nat} {ls : Array Slot} {st0 rest : List Value} {Qa : State → Outcome → State → Prop}
    (hr : va_Run p l e R s m args below meth c H locs cells slots 0 0 (F0 m pc ls st0) rest Qa A) (hS : va_S A H0 H locs) (hF : ∀ st₀ o t, Qa st₀ o t → va_F A st₀ t)
    (kk : ∀ (v : Option Value) (st₀ t : State) (H1 : Heap) (locs1 : List Loc), t.heap = H1 → Qa st₀ (.returned v) t → va_S A H0 H1 locs1 → W p l e R s m args below meth c H1 locs1 cells slots Q (F0 m (pc + 3) ls (v.toList ++ rest))) : W p l e R s m args below meth c H locs cells slots Q (F0 m pc ls st0) := by
  intro T hT X
  obtain ⟨v, st₀, t, T', L, h0, X', hL, e1, e2, hq, st⟩ := hr T hT X
  obtain ⟨hz, hk⟩ := hF _ _ _ hq
  rw [h0] at hz hk
  obtain ⟨t2, a1, b1⟩ := kk v st₀ t T'.heap (locs ++ L) e1.symm hq
    ⟨Nat.le_trans hS.1 (by rw [e1]; exact hz), fun q h1 h2 => by rw [e1, hk q (Nat.lt_of_lt_of_le h1 hS.1) h2]; exact hS.2.1 q h1 h2, fun q hq => by
      rcases List.mem_append.mp hq with h | h
      · exact hS.2.2 q h
      · exact hL q h⟩ T' rfl X'
  exact ⟨t2, st t2 a1, b1⟩
theorem a_blind (E : aE) (S : aS) (G : aG) (av : List Value) : FrameBlind (va_Pc av (a_Bw E S G)) := by
  intro a U g mk q
  obtain ⟨q0, q1, q2, q3, q4⟩ := q
  exact ⟨q0, q1, q2, va_K.moved (u := U) (U := U.calling g mk a) (Vm.Alike.refl U.vm) q3, a_For.same (s := U) (U := U.calling g mk a) rfl q4⟩
/-- how a call's own record comes apart -/
theorem a_inv_inv {m : aM} {k : Nat} {kinds : List Nat} {x : Nat} {st : List Value} {m' : aM} {as r : List Value} (h : a_inv m k kinds x st = some (.inr (.inr (m', as, r)))) : ∃ kd n, a_cr m.1 k = some (kd, n, m') ∧ kd ∈ kinds ∧ m'.2.2.2.2.2.1 + 1 ≤ m.2.2.2.2.2.1 ∧ 8 + (m'.2.2.2.1 + 11) + m'.2.2.2.2.2.2 ≤ m.2.2.2.2.2.2 ∧ as.length = n + x ∧ st = as.reverse ++ r ∧ a_words r ≤ 8 ∧ (a_ex as).length ≤ m'.2.2.2.1 ∧ (kd = 1 → ∃ a as', as = .ref a :: as' ∧ a_cls a = m'.1) := by
  unfold a_inv at h
  cases hcr : a_cr m.1 k with
  | none => rw [hcr] at h; cases h
  | some q =>
    obtain ⟨kd, n, m2⟩ := q
    rw [hcr] at h
    dsimp only at h
    split at h
    · rename_i hg
      cases htk : a_take (n + x) [] st with
      | none => rw [htk] at h; cases h
      | some q2 =>
        obtain ⟨as2, r2⟩ := q2
        rw [htk] at h
        dsimp only at h
        obtain ⟨xs, h1, h2, h3⟩ := a_take_inv _ _ _ _ _ htk
        rw [List.append_nil] at h2
        subst h2
        split at h
        · rename_i hw
          split at h
          · rename_i a as'
            obtain ⟨hc, h⟩ := a_g_inv h
            cases h
            exact ⟨1, n, rfl, hg.1, hg.2.1, hg.2.2, h1, h3, hw.1, hw.2, fun _ => ⟨a, as', rfl, hc⟩⟩
          · cases h
          · rename_i h7 h8
            cases h
            refine ⟨kd, n, rfl, hg.1, hg.2.1, hg.2.2, h1, h3, hw.1, hw.2, fun e => ?_⟩
            first | exact (h7 e).elim | exact (h8 e).elim | exact (h7 _ e).elim | exact (h8 _ e).elim
        · cases h
    · cases h
set_option maxHeartbeats 4000000 in
theorem a_sound (E : aE) (l : Launch) (hDe : a_De E) : ∀ n, a_Snd E l n
  | 0 => fun _ _ _ _ _ _ _ h => h.elim
  | n + 1 => by
    have ih := a_sound E l hDe n
    intro m pc L st S G Q h p e R s mid args below meth c cells slots Qw C hcl hsl hRt
    rw [aT_eq] at h
    unfold a_step at h
    cases hd : decode m.2.2.1 pc with
    | error x => rw [hd] at h; exact h.elim
    | ok q =>
      obtain ⟨i, len⟩ := q
      rw [hd] at h
      dsimp only at h
      cases ho : a_ins m pc L st S G i len with
      | none => rw [ho] at h; exact h.elim
      | some o =>
        rw [ho] at h
        match o, ho, h with
        | .inl (pc', L', st', S', G'), ho, h =>
          exact a_ins_next hDe C hcl hsl hd ho (ih m pc' L' st' S' G' Q h p e R s mid args below meth c cells slots Qw C hcl hsl hRt)
        | .inr (.inl v), ho, h =>
          intro H locs ls hSt hP hS hl
          obtain ⟨hst, hrt⟩ := a_ins_ret hd ho
          rw [hst]
          exact hRt v S G H locs ls pc h hSt hP hS hrt
        | .inr (.inr (m', as, st')), ho, h =>
          intro H locs ls hSt hP hS hl
          obtain ⟨hx, hb, hml, hr, hlk, hown, hts, hK, hF, hfr, hlo⟩ := id C
          have kk : ∀ (v : Option Value) (st₀ t : State) (H1 : Heap) (locs1 : List Loc), t.heap = H1 → a_Qc E m' (fun r S' G' => aT n m (pc + 3) L (a_push r st') S' G' Q) (as.map (a_tr E)).toArray st₀ (.returned v) t → va_S (e_A E) s.heap H1 locs1 → W p l e R s mid args below meth c H1 locs1 cells slots Qw (F0 mid (pc + 3) ls (v.toList ++ st'.map (a_tr E))) := by
            intro v st₀ t H1 locs1 ht hq hS1
            obtain ⟨⟨v2, S', G', pcx, e1, h1, -, h2, h3⟩, -⟩ := hq
            cases e1
            rw [ht] at h3
            have hgo := ih m (pc + 3) L (a_push v2 st') S' G' Q h1 p e R s mid args below meth c cells slots Qw C hcl hsl hRt H1 locs1 ls h2 h3 hS1 hl
            cases v2 with
            | none => exact hgo
            | some w => exact hgo
          have hpre : ∀ U : State, U.heap = H → s.WarmedH U.vm → va_Pc (as.map (a_tr E)) (a_Bw E S G) (as.map (a_tr E)).toArray U := fun U hU hW => ⟨rfl, hSt, by rw [hU]; exact hP, va_K.moved hW.alike hK, by rw [hU]; exact (hF.kept hS.2.1).warm hW⟩
          have hFF : ∀ st₀ o t, a_Qc E m' (fun r S' G' => aT n m (pc + 3) L (a_push r st') S' G' Q) (as.map (a_tr E)).toArray st₀ o t → va_F (e_A E) st₀ t := fun _ _ _ hq => hq.2
          have hRo : ∀ {m' : aM}, m'.2.2.2.2.2.1 + 1 ≤ m.2.2.2.2.2.1 → 8 + (m'.2.2.2.1 + 11) + m'.2.2.2.2.2.2 ≤ m.2.2.2.2.2.2 → (a_rm m').frames + 1 ≤ R.frames ∧ 8 + (m'.2.2.2.1 + 11) + (a_rm m').locals ≤ R.locals := fun h1 h2 => ⟨Nat.le_trans h1 hfr, Nat.le_trans h2 hlo⟩
          rcases a_ins_call ho with ⟨k, rfl, rfl, hin⟩ | ⟨k, rfl, rfl, hin⟩
          · obtain ⟨kd, nn, g1, g2, g3, g4, g5, g6, g7, g8, g9⟩ := a_inv_inv hin
            have hkd : kd = 1 := by simpa using g2
            obtain ⟨a, as', ea, eb⟩ := g9 hkd
            subst ea
            obtain ⟨c1, c2, -, c4, -⟩ := a_crL_ok _ (a_find_mem _ _ _ _ g1)
            obtain ⟨d1, d2, d3⟩ := c4 hkd
            have hcla : a_cls a < 7 := by rw [eb]; exact d3
            have ha := a_cls_lt hcla
            obtain ⟨CC, TT, NN, f1, f2, -⟩ := a_okF_all d3
            have hM := a_met ih m' c1 (.ref a :: as') g8 S G _ h
            have hCC : CC = m'.2.1.cls := by rw [f2, c1.2.1]
            have hst : st.map (a_tr E) = (as'.map (a_tr E)).reverse ++ .ref (e_ad E a) :: st'.map (a_tr E) := by
              rw [g6]
              simp [a_tr]
            rw [hst]
            refine a_call (va_runV (C := m'.2.1.cls) (n := nn) (bytes := m'.2.2.1) (maxL := m'.2.2.2.1) (ret := m'.2.2.2.2.1) (As := as'.map (a_tr E)) (rest := st'.map (a_tr E)) (b := e_ad E a) ⟨hx, hb, hml, hown, hts⟩ hM ⟨callB_of nn hts (a_good m' c1) rfl rfl rfl (hts _ c1.2.2.2.2) (hts _ d1) ⟨c1.2.2.2.1.1, c1.2.2.2.1.2, c2⟩ (hRo g3 g4), hts _ d2.1, hts _ d2.2⟩ ⟨a_blind E S G _, ?_, hpre⟩ rfl ?_ hl.2.1 rfl (by show 2 * 0 + _ ≤ 8; rw [a_words_tr]; omega) hd ⟨by omega, by omega⟩) hS hFF kk
            · rw [← hCC]
              exact va_recv hK hP f1 (q0 := a) (by rw [a_ws_at E S G ha, a_cell_obj E S G hcla, eb])
            · simpa using g5
          · obtain ⟨kd, nn, g1, g2, g3, g4, g5, g6, g7, g8, g9⟩ := a_inv_inv hin
            obtain ⟨c1, c2, c3, -, c5⟩ := a_crL_ok _ (a_find_mem _ _ _ _ g1)
            have hM := a_met ih m' c1 as g8 S G _ h
            have hst : st.map (a_tr E) = (as.map (a_tr E)).reverse ++ st'.map (a_tr E) := by
              rw [g6]
              simp
            rw [hst]
            have hkd : kd = 0 ∨ kd = 2 := by simpa using g2
            rcases hkd with hkd | hkd
            · obtain ⟨d1, d2⟩ := c3 hkd
              exact a_call (va_runS (n := nn) (bytes := m'.2.2.1) (maxL := m'.2.2.2.1) (ret := m'.2.2.2.2.1) (As := as.map (a_tr E)) (rest := st'.map (a_tr E)) ⟨hx, hb, hml, hown, hts⟩ hM ⟨callB_of nn hts (a_good m' c1) rfl rfl rfl (hts _ c1.2.2.2.2) (hts _ d1) ⟨c1.2.2.2.1.1, c1.2.2.2.1.2, c2⟩ (hRo g3 g4), hts _ d2⟩ ⟨a_blind E S G _, hpre⟩ rfl (by simpa using g5) hl.2.1 rfl (by show 2 * 0 + _ ≤ 8; rw [a_words_tr]; omega) hd ⟨by omega, by omega⟩) hS hFF kk
            · obtain ⟨⟨d1, d2, d3⟩, d4⟩ := c5 hkd
              dsimp only at d1 d2 d3
              have hown3 : s.vm.findClass RX3 = some mid.cls := by rw [d1] at hown; exact hown
              subst d2
              subst d3
              exact a_call (va_runSN (n := nn) (own := RX3) (host := RX5) (index := 77) (bytes := mX5_isFigure.2.2.1) (maxL := mX5_isFigure.2.2.2.1) (ret := mX5_isFigure.2.2.2.2.1) (As := as.map (a_tr E)) (rest := st'.map (a_tr E)) ⟨hx, hb, hml, hown3, hts⟩ hM ⟨va_cnB nn hts (a_good _ c1) rfl rfl rfl hF.2.2.2.2.2 (hts _ c1.2.2.2.2) ⟨c1.2.2.2.1.1, c1.2.2.2.1.2, c2⟩ (hRo g3 g4), hts _ d4, trivial⟩ ⟨a_blind E S G _, hpre⟩ rfl (by simpa using g5) hl.2.1 rfl (by show 2 * 0 + _ ≤ 8; rw [a_words_tr]; omega) hd ⟨by omega, by omega⟩) hS hFF kk
