/-! a method's answer has its kind -/
def NR (m : aM) (o : Option aO) : Prop := ∀ x, o = some (.inr (.inl (some x))) → a_okr x m = true
theorem nr_none (m : aM) : NR m none := fun x h => by cases h
theorem nr_nx {m : aM} {pc : Nat} {L st : List Value} {S : aS} {G : aG} : NR m (a_nx pc L st S G) := fun x h => by unfold a_nx at h; cases h
theorem nr_ln (m : aM) (len k : Nat) {o : Option aO} (h : NR m o) : NR m (a_ln len k o) := by
  unfold a_ln
  split
  · exact h
  · exact nr_none m
theorem nr_g (m : aM) (c : Prop) [Decidable c] {o : Option aO} (h : c → NR m o) : NR m (a_g c o) := by
  unfold a_g
  split
  · rename_i hc; exact h hc
  · exact nr_none m
theorem nr_if (m : aM) (c : Prop) [Decidable c] {o1 o2 : Option aO} (h1 : NR m o1) (h2 : NR m o2) : NR m (if c then o1 else o2) := by
  split
  · exact h1
  · exact h2
theorem nr_i1 (m : aM) (st : List Value) {f : Int32 → List Value → Option aO} (h : ∀ x r, NR m (f x r)) : NR m (a_i1 st f) := by
  unfold a_i1
  split
  · exact h _ _
  · exact nr_none m
theorem nr_i2 (m : aM) (st : List Value) {f : Int32 → Int32 → List Value → Option aO} (h : ∀ x y r, NR m (f x y r)) : NR m (a_i2 st f) := nr_i1 m st fun y r => nr_i1 m r fun x r => h x y r
theorem nr_l1 (m : aM) (st : List Value) {f : Int64 → List Value → Option aO} (h : ∀ x r, NR m (f x r)) : NR m (a_l1 st f) := by
  unfold a_l1
  split
  · exact h _ _
  · exact nr_none m
theorem nr_l2 (m : aM) (st : List Value) {f : Int64 → Int64 → List Value → Option aO} (h : ∀ x y r, NR m (f x y r)) : NR m (a_l2 st f) := nr_l1 m st fun y r => nr_l1 m r fun x r => h x y r
theorem nr_r1 (m : aM) (st : List Value) {f : Nat → List Value → Option aO} (h : ∀ x r, NR m (f x r)) : NR m (a_r1 st f) := by
  unfold a_r1
  split
  · exact h _ _
  · exact nr_none m
theorem nr_jp (m : aM) (pc : Nat) (off : Int) {f : Nat → Option aO} (h : ∀ t, NR m (f t)) : NR m (a_jp pc off f) := by
  unfold a_jp
  split
  · exact h _
  · exact nr_none m
theorem nr_st (m : aM) (L : List Value) (i : Nat) (v : Value) {f : List Value → Option aO} (h : ∀ t, NR m (f t)) : NR m (a_st L i v f) := by
  unfold a_st
  split
  · exact h _
  · exact nr_none m
theorem nr_st2 (m : aM) (L : List Value) (i : Nat) (v : Value) {f : List Value → Option aO} (h : ∀ t, NR m (f t)) : NR m (a_st2 L i v f) := by
  unfold a_st2
  split
  · exact h _
  · exact nr_none m
theorem nr_call (m m' : aM) (as st : List Value) : NR m (some (.inr (.inr (m', as, st)))) := fun x h => by cases h
theorem nr_inv {m : aM} {i : Nat} {kinds : List Nat} {extra : Nat} {st : List Value} : NR m (a_inv m i kinds extra st) := by
  unfold a_inv
  split
  · split
    · split
      · split
        · split
          · exact nr_g m _ fun _ => nr_call _ _ _ _
          · exact nr_none m
          · exact nr_call _ _ _ _
        · exact nr_none m
      · exact nr_none m
    · exact nr_none m
  · exact nr_none m
theorem nr_mth {m : aM} {t pc : Nat} {L st : List Value} {S : aS} {G : aG} : NR m (a_mth m t pc L st S G) := by
  unfold a_mth
  split
  · split
    · exact nr_i2 m _ fun _ _ _ => nr_if m _ (nr_nx) (nr_none m)
    · exact nr_i2 m _ fun _ _ _ => nr_if m _ (nr_nx) (nr_none m)
    · exact nr_i1 m _ fun _ _ => nr_if m _ (nr_nx) (nr_none m)
  · exact nr_none m
set_option maxHeartbeats 2000000 in
theorem nr_ins {m : aM} {pc : Nat} {L st : List Value} {S : aS} {G : aG} {i : ClassFile.Instr} {len : Nat} : NR m (a_ins m pc L st S G i len) := by
  unfold a_ins
  split
  all_goals first
    | exact nr_none m
    | exact nr_ln m _ _ (nr_nx)
    | exact nr_ln m _ _ (nr_i1 m _ fun _ _ => nr_nx)
    | exact nr_ln m _ _ (nr_l1 m _ fun _ _ => nr_nx)
    | exact nr_ln m _ _ (nr_r1 m _ fun _ _ => nr_nx)
    | exact nr_ln m _ _ (nr_i2 m _ fun _ _ _ => nr_nx)
    | exact nr_ln m _ _ (nr_l2 m _ fun _ _ _ => nr_nx)
    | exact nr_ln m _ _ (nr_i2 m _ fun _ _ _ => nr_g m _ fun _ => nr_nx)
    | exact nr_ln m _ _ (nr_l2 m _ fun _ _ _ => nr_g m _ fun _ => nr_nx)
    | exact nr_ln m _ _ (nr_i1 m _ fun _ _ => nr_st m _ _ _ fun _ => nr_nx)
    | exact nr_ln m _ _ (nr_l1 m _ fun _ _ => nr_st2 m _ _ _ fun _ => nr_nx)
    | exact nr_ln m _ _ (nr_i1 m _ fun _ _ => nr_l1 m _ fun _ _ => nr_nx)
    | exact nr_ln m _ _ (nr_jp m _ _ fun _ => nr_nx)
    | exact nr_ln m _ _ (nr_i1 m _ fun _ _ => nr_jp m _ _ fun _ => nr_if m _ (nr_nx) (nr_nx))
    | exact nr_ln m _ _ (nr_i2 m _ fun _ _ _ => nr_jp m _ _ fun _ => nr_if m _ (nr_nx) (nr_nx))
    | exact nr_ln m _ _ (nr_r1 m _ fun _ _ => nr_g m _ fun _ => nr_nx)
    | exact nr_ln m _ _ (nr_i1 m _ fun _ _ => nr_r1 m _ fun _ _ => nr_g m _ fun _ => nr_nx)
    | exact nr_ln m _ _ (nr_i1 m _ fun _ _ => nr_i1 m _ fun _ _ => nr_r1 m _ fun _ _ => nr_g m _ fun _ => nr_nx)
    | exact nr_ln m _ _ (nr_inv)
    | exact nr_i1 m _ fun _ _ => nr_g m _ fun _ => nr_jp m _ _ fun _ => nr_nx
    | skip
  all_goals first
    | (refine nr_i1 m _ fun _ _ => nr_if m _ (nr_jp m _ _ fun _ => nr_nx) ?_
       split
       · exact nr_jp m _ _ fun _ => nr_nx
       · exact nr_none m)
    | skip
  all_goals first
    | (refine nr_ln m _ _ ?_
       split
       · exact nr_g m _ fun _ => nr_nx
       · exact nr_none m)
    | (refine nr_ln m _ _ ?_
       split
       · exact nr_nx
       · exact nr_none m)
    | (refine nr_ln m _ _ ?_
       split
       · refine nr_g m _ fun hc => ?_
         intro x hx
         simp only [Option.some.injEq, Sum.inr.injEq, Sum.inl.injEq] at hx
         subst hx
         exact hc
       · exact nr_none m)
    | (refine nr_ln m _ _ ?_
       split
       · refine nr_g m _ fun _ => ?_
         intro x hx
         simp at hx
       · exact nr_none m)
    | (refine nr_ln m _ _ ?_
       split
       · refine nr_r1 m _ fun _ _ => nr_g m _ fun _ => ?_
         split
         · exact nr_nx
         · exact nr_nx
         · exact nr_nx
         · exact nr_none m
       · exact nr_none m)
    | (refine nr_ln m _ _ ?_
       split
       · split
         · exact nr_i1 m _ fun _ _ => nr_r1 m _ fun _ _ => nr_g m _ fun _ => nr_nx
         · exact nr_l1 m _ fun _ _ => nr_r1 m _ fun _ _ => nr_g m _ fun _ => nr_nx
         · exact nr_none m
       · exact nr_none m)
    | (refine nr_ln m _ _ ?_
       split
       · exact nr_i1 m _ fun _ _ => nr_i1 m _ fun _ _ => nr_r1 m _ fun _ _ => nr_i1 m _ fun _ _ => nr_r1 m _ fun _ _ => nr_g m _ fun _ => nr_nx
       · split
         · exact nr_mth
         · exact nr_inv)
theorem aT_ok : ∀ (n : Nat) (m : aM) (pc : Nat) (L st : List Value) (S : aS) (G : aG) (Q : aQ), aT n m pc L st S G Q → aT n m pc L st S G (fun v S' G' => (∀ x, v = some x → a_okr x m = true) ∧ Q v S' G')
  | 0, _, _, _, _, _, _, _, h => h.elim
  | n + 1, m, pc, L, st, S, G, Q, h => by
    rw [aT_eq] at h ⊢
    have hs : NR m (a_step m pc L st S G) := by
      unfold a_step
      split
      · exact nr_ins
      · exact nr_none m
    generalize a_step m pc L st S G = o at h hs
    match o, h, hs with
    | some (.inl (pc', L', st', S', G')), h, _ => exact aT_ok n _ _ _ _ _ _ _ h
    | some (.inr (.inl v)), h, hs => exact ⟨fun x hx => hs x (by rw [hx]), h⟩
    | some (.inr (.inr (m', as, st'))), h, _ => exact aT_mono h fun r S' G' h2 => aT_ok n _ _ _ _ _ _ _ h2
theorem aX_ok {m : aM} {L : List Value} {S S1 : aS} {G G1 : aG} {r : Value} (h : ∀ Q, aX m 0 L [] S G Q ↔ Q (some r) S1 G1) : a_okr r m = true := by
  obtain ⟨n, hn⟩ := (h (fun v _ _ => True)).mpr trivial
  have h2 := (h (fun v _ _ => (∀ x, v = some x → a_okr x m = true) ∧ True)).mp ⟨n, aT_ok n _ _ _ _ _ _ _ hn⟩
  exact h2.1 r rfl
theorem okr_int {m : aM} {r : Value} (hm : m.2.2.2.2.1 = some .int) (h : a_okr r m = true) : ∃ x, r = .int x := by
  unfold a_okr at h
  rw [hm] at h
  cases r with
  | int x => exact ⟨x, rfl⟩
  | _ => simp at h
theorem okr_long {m : aM} {r : Value} (hm : m.2.2.2.2.1 = some .long) (h : a_okr r m = true) : ∃ x, r = .long x := by
  unfold a_okr at h
  rw [hm] at h
  cases r with
  | long x => exact ⟨x, rfl⟩
  | _ => simp at h
