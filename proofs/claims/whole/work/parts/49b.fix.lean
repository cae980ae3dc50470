/-! nothing beyond the 45 cells is ever written -/
def FX (S : aS) (o : Option aO) : Prop := ∀ pc L st S' G', o = some (.inl (pc, L, st, S', G')) → ∀ c, 45 ≤ c → S' c = S c
theorem fx_none (S : aS) : FX S none := fun _ _ _ _ _ h => by cases h
theorem fx_nx {pc : Nat} {L st : List Value} {S : aS} {G : aG} : FX S (a_nx pc L st S G) := fun _ _ _ _ _ h c _ => by unfold a_nx at h; cases h; rfl
theorem fx_wr {pc : Nat} {L st : List Value} {S : aS} {G : aG} {a : Nat} {f : Nat → Int32} (ha : a < 45) : FX S (a_nx pc L st (a_wr S a f) G) := fun _ _ _ _ _ h c hc => by unfold a_nx at h; cases h; exact a_wr_ne _ _ (by omega)
theorem fx_cls {ci j a k : Nat} (hf : (a_fs ci)[j]? = some k) (ha : a_cls a = ci) : a < 45 := by
  apply a_cls_lt
  rw [ha]
  rcases Nat.lt_or_ge ci 7 with q | q
  · exact q
  · have : a_fs ci = [] := by
      unfold a_fs
      rw [List.getD_eq_getElem?_getD, List.getElem?_eq_none (by simpa [a_fsL] using q)]
      rfl
    rw [this] at hf
    simp at hf
theorem fx_ln (S : aS) (len k : Nat) {o : Option aO} (h : FX S o) : FX S (a_ln len k o) := by
  unfold a_ln
  split
  · exact h
  · exact fx_none S
theorem fx_g (S : aS) (c : Prop) [Decidable c] {o : Option aO} (h : c → FX S o) : FX S (a_g c o) := by
  unfold a_g
  split
  · rename_i hc; exact h hc
  · exact fx_none S
theorem fx_if (S : aS) (c : Prop) [Decidable c] {o1 o2 : Option aO} (h1 : FX S o1) (h2 : FX S o2) : FX S (if c then o1 else o2) := by
  split
  · exact h1
  · exact h2
theorem fx_i1 (S : aS) (st : List Value) {f : Int32 → List Value → Option aO} (h : ∀ x r, FX S (f x r)) : FX S (a_i1 st f) := by
  unfold a_i1
  split
  · exact h _ _
  · exact fx_none S
theorem fx_i2 (S : aS) (st : List Value) {f : Int32 → Int32 → List Value → Option aO} (h : ∀ x y r, FX S (f x y r)) : FX S (a_i2 st f) := fx_i1 S st fun y r => fx_i1 S r fun x r => h x y r
theorem fx_l1 (S : aS) (st : List Value) {f : Int64 → List Value → Option aO} (h : ∀ x r, FX S (f x r)) : FX S (a_l1 st f) := by
  unfold a_l1
  split
  · exact h _ _
  · exact fx_none S
theorem fx_l2 (S : aS) (st : List Value) {f : Int64 → Int64 → List Value → Option aO} (h : ∀ x y r, FX S (f x y r)) : FX S (a_l2 st f) := fx_l1 S st fun y r => fx_l1 S r fun x r => h x y r
theorem fx_r1 (S : aS) (st : List Value) {f : Nat → List Value → Option aO} (h : ∀ x r, FX S (f x r)) : FX S (a_r1 st f) := by
  unfold a_r1
  split
  · exact h _ _
  · exact fx_none S
theorem fx_jp (S : aS) (pc : Nat) (off : Int) {f : Nat → Option aO} (h : ∀ t, FX S (f t)) : FX S (a_jp pc off f) := by
  unfold a_jp
  split
  · exact h _
  · exact fx_none S
theorem fx_st (S : aS) (L : List Value) (i : Nat) (v : Value) {f : List Value → Option aO} (h : ∀ t, FX S (f t)) : FX S (a_st L i v f) := by
  unfold a_st
  split
  · exact h _
  · exact fx_none S
theorem fx_st2 (S : aS) (L : List Value) (i : Nat) (v : Value) {f : List Value → Option aO} (h : ∀ t, FX S (f t)) : FX S (a_st2 L i v f) := by
  unfold a_st2
  split
  · exact h _
  · exact fx_none S
theorem fx_call (S : aS) (m' : aM) (as st : List Value) : FX S (some (.inr (.inr (m', as, st)))) := fun _ _ _ _ _ h => by cases h
theorem fx_inv {S : aS} {m : aM} {i : Nat} {kinds : List Nat} {extra : Nat} {st : List Value} : FX S (a_inv m i kinds extra st) := by
  unfold a_inv
  split
  · split
    · split
      · split
        · split
          · exact fx_g S _ fun _ => fx_call _ _ _ _
          · exact fx_none S
          · exact fx_call _ _ _ _
        · exact fx_none S
      · exact fx_none S
    · exact fx_none S
  · exact fx_none S
theorem fx_mth {m : aM} {t pc : Nat} {L st : List Value} {S : aS} {G : aG} : FX S (a_mth m t pc L st S G) := by
  unfold a_mth
  split
  · split
    · exact fx_i2 S _ fun _ _ _ => fx_if S _ (fx_nx) (fx_none S)
    · exact fx_i2 S _ fun _ _ _ => fx_if S _ (fx_nx) (fx_none S)
    · exact fx_i1 S _ fun _ _ => fx_if S _ (fx_nx) (fx_none S)
  · exact fx_none S
set_option maxHeartbeats 2000000 in
theorem fx_ins {m : aM} {pc : Nat} {L st : List Value} {S : aS} {G : aG} {i : ClassFile.Instr} {len : Nat} : FX S (a_ins m pc L st S G i len) := by
  unfold a_ins
  split
  all_goals first
    | exact fx_none S
    | exact fx_ln S _ _ (fx_nx)
    | exact fx_ln S _ _ (fx_i1 S _ fun _ _ => fx_nx)
    | exact fx_ln S _ _ (fx_l1 S _ fun _ _ => fx_nx)
    | exact fx_ln S _ _ (fx_r1 S _ fun _ _ => fx_nx)
    | exact fx_ln S _ _ (fx_i2 S _ fun _ _ _ => fx_nx)
    | exact fx_ln S _ _ (fx_l2 S _ fun _ _ _ => fx_nx)
    | exact fx_ln S _ _ (fx_i2 S _ fun _ _ _ => fx_g S _ fun _ => fx_nx)
    | exact fx_ln S _ _ (fx_l2 S _ fun _ _ _ => fx_g S _ fun _ => fx_nx)
    | exact fx_ln S _ _ (fx_i1 S _ fun _ _ => fx_st S _ _ _ fun _ => fx_nx)
    | exact fx_ln S _ _ (fx_l1 S _ fun _ _ => fx_st2 S _ _ _ fun _ => fx_nx)
    | exact fx_ln S _ _ (fx_i1 S _ fun _ _ => fx_l1 S _ fun _ _ => fx_nx)
    | exact fx_ln S _ _ (fx_jp S _ _ fun _ => fx_nx)
    | exact fx_ln S _ _ (fx_i1 S _ fun _ _ => fx_jp S _ _ fun _ => fx_if S _ (fx_nx) (fx_nx))
    | exact fx_ln S _ _ (fx_i2 S _ fun _ _ _ => fx_jp S _ _ fun _ => fx_if S _ (fx_nx) (fx_nx))
    | exact fx_ln S _ _ (fx_r1 S _ fun _ _ => fx_g S _ fun _ => fx_nx)
    | exact fx_ln S _ _ (fx_i1 S _ fun _ _ => fx_r1 S _ fun _ _ => fx_g S _ fun _ => fx_nx)
    | exact fx_ln S _ _ (fx_i1 S _ fun _ _ => fx_i1 S _ fun _ _ => fx_r1 S _ fun _ _ => fx_g S _ fun hc => fx_wr hc.1)
    | exact fx_ln S _ _ (fx_i1 S _ fun _ _ => fx_i1 S _ fun _ _ => fx_r1 S _ fun _ _ => fx_g S _ fun hc => fx_wr (by rw [hc.1]; decide))
    | exact fx_ln S _ _ (fx_inv)
    | exact fx_i1 S _ fun _ _ => fx_g S _ fun _ => fx_jp S _ _ fun _ => fx_nx
    | skip
  all_goals first
    | (refine fx_i1 S _ fun _ _ => fx_if S _ (fx_jp S _ _ fun _ => fx_nx) ?_
       split
       · exact fx_jp S _ _ fun _ => fx_nx
       · exact fx_none S)
    | skip
  all_goals first
    | (refine fx_ln S _ _ ?_
       split
       · exact fx_g S _ fun _ => fx_nx
       · exact fx_none S)
    | (refine fx_ln S _ _ ?_
       split
       · exact fx_nx
       · exact fx_none S)
    | (refine fx_ln S _ _ ?_
       split
       · refine fx_g S _ fun _ => ?_
         intro _ _ _ _ _ hx
         simp at hx
       · exact fx_none S)
    | (refine fx_ln S _ _ ?_
       split
       · refine fx_r1 S _ fun _ _ => fx_g S _ fun _ => ?_
         split
         · exact fx_nx
         · exact fx_nx
         · exact fx_nx
         · exact fx_none S
       · exact fx_none S)
    | (refine fx_ln S _ _ ?_
       split
       · split
         · rename_i hf; exact fx_i1 S _ fun _ _ => fx_r1 S _ fun _ _ => fx_g S _ fun hc => fx_wr (fx_cls hf hc)
         · exact fx_l1 S _ fun _ _ => fx_r1 S _ fun _ _ => fx_g S _ fun _ => fx_nx
         · exact fx_none S
       · exact fx_none S)
    | (refine fx_ln S _ _ ?_
       split
       · exact fx_i1 S _ fun _ _ => fx_i1 S _ fun _ _ => fx_r1 S _ fun _ _ => fx_i1 S _ fun _ _ => fx_r1 S _ fun _ _ => fx_g S _ fun hc => fx_wr hc.2.1.2
       · split
         · exact fx_mth
         · exact fx_inv)
theorem aT_fx : ∀ (n : Nat) (m : aM) (pc : Nat) (L st : List Value) (S : aS) (G : aG) (Q : aQ), aT n m pc L st S G Q → aT n m pc L st S G (fun v S' G' => (∀ c, 45 ≤ c → S' c = S c) ∧ Q v S' G')
  | 0, _, _, _, _, _, _, _, h => h.elim
  | n + 1, m, pc, L, st, S, G, Q, h => by
    rw [aT_eq] at h ⊢
    have hs : FX S (a_step m pc L st S G) := by
      unfold a_step
      split
      · exact fx_ins
      · exact fx_none S
    generalize a_step m pc L st S G = o at h hs
    match o, h, hs with
    | some (.inl (pc', L', st', S', G')), h, hs =>
      have e := hs _ _ _ _ _ rfl
      exact aT_mono (aT_fx n _ _ _ _ _ _ _ h) fun r S2 G2 h2 => ⟨fun c hc => (h2.1 c hc).trans (e c hc), h2.2⟩
    | some (.inr (.inl v)), h, _ => exact ⟨fun _ _ => rfl, h⟩
    | some (.inr (.inr (m', as, st'))), h, _ =>
      exact aT_mono (aT_fx n _ _ _ _ _ _ _ h) fun r S2 G2 h2 => aT_mono (aT_fx n _ _ _ _ _ _ _ h2.2) fun r3 S3 G3 h3 => ⟨fun c hc => (h3.1 c hc).trans (h2.1 c hc), h3.2⟩
theorem aX_fx {m : aM} {L : List Value} {S S1 : aS} {G G1 : aG} {r : Value} (h : ∀ Q, aX m 0 L [] S G Q ↔ Q (some r) S1 G1) : ∀ c, 45 ≤ c → S1 c = S c := by
  obtain ⟨n, hn⟩ := (h (fun v _ _ => True)).mpr trivial
  have h2 := (h (fun v S' _ => (∀ c, 45 ≤ c → S' c = S c) ∧ True)).mp ⟨n, aT_fx n _ _ _ _ _ _ _ hn⟩
  exact h2.1
