def a_ins (m : aM) (pc : Nat) (L st : List Value) (S : aS) (G : aG) (i : ClassFile.Instr) (len : Nat) : Option aO := match i with
  | .iconst n => a_ln len 1 (a_nx (pc + 1) L (.int (Int32.ofInt n) :: st) S G)
  | .bipush n => a_ln len 2 (a_nx (pc + 2) L (.int (Int8.ofInt n).toInt32 :: st) S G)
  | .sipush n => a_ln len 3 (a_nx (pc + 3) L (.int (Int16.ofInt n).toInt32 :: st) S G)
  | .lconst n => a_ln len 1 (a_nx (pc + 1) L (.long (Int64.ofNat (n : Nat)) :: st) S G)
  | .iload_n k => a_ln len 1 (a_i1 [a_ld L (k : Nat)] fun x _ => a_nx (pc + 1) L (.int x :: st) S G)
  | .iload k => a_ln len 2 (a_i1 [a_ld L k] fun x _ => a_nx (pc + 2) L (.int x :: st) S G)
  | .lload_n k => a_ln len 1 (a_l1 [a_ld L (k : Nat)] fun x _ => a_nx (pc + 1) L (.long x :: st) S G)
  | .lload k => a_ln len 2 (a_l1 [a_ld L k] fun x _ => a_nx (pc + 2) L (.long x :: st) S G)
  | .aload_n k => a_ln len 1 (a_r1 [a_ld L (k : Nat)] fun x _ => a_nx (pc + 1) L (.ref x :: st) S G)
  | .aload k => a_ln len 2 (a_r1 [a_ld L k] fun x _ => a_nx (pc + 2) L (.ref x :: st) S G)
  | .istore_n k => a_ln len 1 (a_i1 st fun x r => a_st L (k : Nat) (.int x) fun L => a_nx (pc + 1) L r S G)
  | .istore k => a_ln len 2 (a_i1 st fun x r => a_st L k (.int x) fun L => a_nx (pc + 2) L r S G)
  | .lstore_n k => a_ln len 1 (a_l1 st fun x r => a_st2 L (k : Nat) (.long x) fun L => a_nx (pc + 1) L r S G)
  | .iinc k n => a_ln len 3 (a_i1 [a_ld L k] fun x _ => a_st L k (.int (x + Int32.ofInt n)) fun L => a_nx (pc + 3) L st S G)
  | .iadd => a_ln len 1 (a_i2 st fun x y r => a_nx (pc + 1) L (.int (x + y) :: r) S G)
  | .isub => a_ln len 1 (a_i2 st fun x y r => a_nx (pc + 1) L (.int (x - y) :: r) S G)
  | .imul => a_ln len 1 (a_i2 st fun x y r => a_nx (pc + 1) L (.int (x * y) :: r) S G)
  | .iand => a_ln len 1 (a_i2 st fun x y r => a_nx (pc + 1) L (.int (x &&& y) :: r) S G)
  | .ior => a_ln len 1 (a_i2 st fun x y r => a_nx (pc + 1) L (.int (x ||| y) :: r) S G)
  | .ixor => a_ln len 1 (a_i2 st fun x y r => a_nx (pc + 1) L (.int (x ^^^ y) :: r) S G)
  | .idiv => a_ln len 1 (a_i2 st fun x y r => a_g (¬ y = 0) (a_nx (pc + 1) L (.int (x / y) :: r) S G))
  | .irem => a_ln len 1 (a_i2 st fun x y r => a_g (¬ y = 0) (a_nx (pc + 1) L (.int (x - x / y * y) :: r) S G))
  | .ineg => a_ln len 1 (a_i1 st fun x r => a_nx (pc + 1) L (.int (-x) :: r) S G)
  | .ishl => a_ln len 1 (a_i2 st fun x y r => a_nx (pc + 1) L (.int (x <<< (y &&& 31)) :: r) S G)
  | .ishr => a_ln len 1 (a_i2 st fun x y r => a_nx (pc + 1) L (.int (x >>> (y &&& 31)) :: r) S G)
  | .iushr => a_ln len 1 (a_i2 st fun x y r => a_nx (pc + 1) L (.int (x.toUInt32 >>> (y.toUInt32 &&& Int32.toUInt32 31)).toInt32 :: r) S G)
  | .ladd => a_ln len 1 (a_l2 st fun x y r => a_nx (pc + 1) L (.long (x + y) :: r) S G)
  | .lsub => a_ln len 1 (a_l2 st fun x y r => a_nx (pc + 1) L (.long (x - y) :: r) S G)
  | .lmul => a_ln len 1 (a_l2 st fun x y r => a_nx (pc + 1) L (.long (x * y) :: r) S G)
  | .land => a_ln len 1 (a_l2 st fun x y r => a_nx (pc + 1) L (.long (x &&& y) :: r) S G)
  | .lor => a_ln len 1 (a_l2 st fun x y r => a_nx (pc + 1) L (.long (x ||| y) :: r) S G)
  | .ldiv => a_ln len 1 (a_l2 st fun x y r => a_g (¬ y = 0) (a_nx (pc + 1) L (.long (x / y) :: r) S G))
  | .lrem => a_ln len 1 (a_l2 st fun x y r => a_g (¬ y = 0) (a_nx (pc + 1) L (.long (x - x / y * y) :: r) S G))
  | .lshl => a_ln len 1 (a_i1 st fun y r => a_l1 r fun x r => a_nx (pc + 1) L (.long (x <<< (y.toInt64 &&& 63)) :: r) S G)
  | .lushr => a_ln len 1 (a_i1 st fun y r => a_l1 r fun x r => a_nx (pc + 1) L (.long (x.toUInt64 >>> (y.toInt64.toUInt64 &&& Int64.toUInt64 63)).toInt64 :: r) S G)
  | .lcmp => a_ln len 1 (a_l2 st fun x y r => a_nx (pc + 1) L (.int (lg_cmp x y) :: r) S G)
  | .i2l => a_ln len 1 (a_i1 st fun x r => a_nx (pc + 1) L (.long x.toInt64 :: r) S G)
  | .l2i => a_ln len 1 (a_l1 st fun x r => a_nx (pc + 1) L (.int x.toInt32 :: r) S G)
  | .dup => a_ln len 1 (match st with
    | v :: r => a_g (v.category = 1) (a_nx (pc + 1) L (v :: v :: r) S G)
    | _ => none)
  | .dup2 => a_ln len 1 (match st with
    | v :: w :: r => a_g (v.category = 1 ∧ w.category = 1) (a_nx (pc + 1) L (v :: w :: v :: w :: r) S G)
    | _ => none)
  | .pop => a_ln len 1 (match st with
    | v :: r => a_g (v.category = 1) (a_nx (pc + 1) L r S G)
    | _ => none)
  | .goto off => a_ln len 3 (a_jp pc off fun t => a_nx t L st S G)
  | .ifCond c off => a_ln len 3 (a_i1 st fun x r => a_jp pc off fun t => if a_cnd c x 0 = true then a_nx t L r S G else a_nx (pc + 3) L r S G)
  | .if_icmp c off => a_ln len 3 (a_i2 st fun x y r => a_jp pc off fun t => if a_cnd c x y = true then a_nx t L r S G else a_nx (pc + 3) L r S G)
  | .tableswitch d lo hi offs => a_i1 st fun x r => if x.toInt < lo ∨ hi < x.toInt then a_jp pc d fun t => a_nx t L r S G else (match offs[(x.toInt - lo).toNat]? with
    | some off => a_jp pc off fun t => a_nx t L r S G
    | none => none)
  | .lookupswitch d ps => a_i1 st fun x r => a_g ((ps.toList.zip (ps.toList.drop 1)).all (fun (a, next) => a.1 < next.1) = true) (a_jp pc (Op.lookupswitch.offset ps.toList d x.toInt) fun t => a_nx t L r S G)
  | .ldc_w k => a_ln len 3 (match a_ki m.1 k with
    | some v => a_nx (pc + 3) L (.int v :: st) S G
    | none => none)
  | .ldc2_w k => a_ln len 3 (match a_kl m.1 k with
    | some v => a_nx (pc + 3) L (.long v :: st) S G
    | none => none)
  | .getstatic k => a_ln len 3 (match a_gs m.1 k with
    | some v => a_nx (pc + 3) L (.ref v :: st) S G
    | none => none)
  | .getfield k => a_ln len 3 (match a_fr m.1 k with
    | some (ci, j) => a_r1 st fun a r => a_g (a_cls a = ci) (match (a_fs ci)[j]? with
      | some 0 => a_nx (pc + 3) L (.int (S a j) :: r) S G
      | some 1 => a_nx (pc + 3) L (.long (G a) :: r) S G
      | some 2 => a_nx (pc + 3) L (.ref (a_rf a j) :: r) S G
      | _ => none)
    | none => none)
  | .putfield k => a_ln len 3 (match a_fr m.1 k with
    | some (ci, j) => (match (a_fs ci)[j]? with
      | some 0 => a_i1 st fun v r => a_r1 r fun a r => a_g (a_cls a = ci) (a_nx (pc + 3) L r (a_wr S a (upd (S a) j v)) G)
      | some 1 => a_l1 st fun v r => a_r1 r fun a r => a_g (a_cls a = ci) (a_nx (pc + 3) L r S (a_wr G a v))
      | _ => none)
    | none => none)
  | .arraylength => a_ln len 1 (a_r1 st fun a r => a_g (0 < a_len S a) (a_nx (pc + 1) L (.int (Int32.ofNat (a_len S a)) :: r) S G))
  | .iaload => a_ln len 1 (a_i1 st fun i r => a_r1 r fun a r => a_g (a_in i (a_len S a)) (a_nx (pc + 1) L (.int (a_get S a i.toNatClampNeg) :: r) S G))
  | .laload => a_ln len 1 (a_i1 st fun i r => a_r1 r fun a r => a_g (a = 1003 ∧ a_in i 4) (a_nx (pc + 1) L (.long (a_five i.toNatClampNeg) :: r) S G))
  | .baload => a_ln len 1 (a_i1 st fun i r => a_r1 r fun a r => a_g (a = 41 ∧ a_in i 2) (a_nx (pc + 1) L (.int (S a i.toNatClampNeg) :: r) S G))
  | .iastore => a_ln len 1 (a_i1 st fun v r => a_i1 r fun i r => a_r1 r fun a r => a_g (a < 45 ∧ a_in i (a_len S a)) (a_nx (pc + 1) L r (a_wr S a (upd (S a) i.toNatClampNeg v)) G))
  | .bastore => a_ln len 1 (a_i1 st fun v r => a_i1 r fun i r => a_r1 r fun a r => a_g (a = 41 ∧ a_in i 2 ∧ (v = 0 ∨ v = 1)) (a_nx (pc + 1) L r (a_wr S a (upd (S a) i.toNatClampNeg v)) G))
  | .invokevirtual k => a_ln len 3 (a_inv m k [1] 1 st)
  | .invokestatic k => a_ln len 3 (match a_ac m.1 k with
    | some _ => a_i1 st fun n r => a_i1 r fun dp r => a_r1 r fun b r => a_i1 r fun sp r => a_r1 r fun a r =>
        a_g ((¬ sp < 0 ∧ ¬ dp < 0 ∧ ¬ n < 0) ∧ (a < 45 ∧ b < 45) ∧ sp.toNatClampNeg + n.toNatClampNeg ≤ a_len S a ∧ dp.toNatClampNeg + n.toNatClampNeg ≤ a_len S b ∧ 0 < a_len S a ∧ 0 < a_len S b ∧ r = [] ∧ 1 ≤ m.2.2.2.2.2.1 ∧ 18 ≤ m.2.2.2.2.2.2)
          (a_nx (pc + 3) L r (a_wr S b (va_cpy (S a) (S b) sp.toNatClampNeg dp.toNatClampNeg n.toNatClampNeg)) G)
    | none => (match a_mh m.1 k with
      | some t => a_mth m t pc L st S G
      | none => a_inv m k [0, 2] 0 st))
  | .ireturn => a_ln len 1 (match st with
    | [.int v] => a_g (a_okr (.int v) m = true) (some (.inr (.inl (some (.int v)))))
    | _ => none)
  | .lreturn => a_ln len 1 (match st with
    | [.long v] => a_g (a_okr (.long v) m = true) (some (.inr (.inl (some (.long v)))))
    | _ => none)
  | .areturn => a_ln len 1 (match st with
    | [.ref v] => a_g (a_okr (.ref v) m = true) (some (.inr (.inl (some (.ref v)))))
    | _ => none)
  | .return_ => a_ln len 1 (match st with
    | [] => a_g (m.2.2.2.2.1 = none) (some (.inr (.inl none)))
    | _ => none)
  | _ => none
def a_step (m : aM) (pc : Nat) (L st : List Value) (S : aS) (G : aG) : Option aO := match decode m.2.2.1 pc with
  | .ok (i, len) => a_ins m pc L st S G i len
  | _ => none
/-- the locals at a method's entry -/
def a_ent (m : aM) (as : List Value) : List Value := a_ex as ++ List.replicate (m.2.2.2.1 - (a_ex as).length) .null
def a_push (r : Option Value) (st : List Value) : List Value := match r with
  | some v => v :: st
  | none => st
/-- within n steps the method ends, with Q -/
def aT : Nat → aM → Nat → List Value → List Value → aS → aG → aQ → Prop
  | 0, _, _, _, _, _, _, _ => False
  | n + 1, m, pc, L, st, S, G, Q => match a_step m pc L st S G with
    | none => False
    | some (.inl (pc', L', st', S', G')) => aT n m pc' L' st' S' G' Q
    | some (.inr (.inl v)) => Q v S G
    | some (.inr (.inr (m', as, st'))) => aT n m' 0 (a_ent m' as) [] S G (fun r S' G' => aT n m (pc + 3) L (a_push r st') S' G' Q)
def aX (m : aM) (pc : Nat) (L st : List Value) (S : aS) (G : aG) (Q : aQ) : Prop := ∃ n, aT n m pc L st S G Q
theorem aT_eq (n : Nat) (m : aM) (pc : Nat) (L st : List Value) (S : aS) (G : aG) (Q : aQ) : aT (n + 1) m pc L st S G Q = (match a_step m pc L st S G with
    | none => False
    | some (.inl (pc', L', st', S', G')) => aT n m pc' L' st' S' G' Q
    | some (.inr (.inl v)) => Q v S G
    | some (.inr (.inr (m', as, st'))) => aT n m' 0 (a_ent m' as) [] S G (fun r S' G' => aT n m (pc + 3) L (a_push r st') S' G' Q)) := by rw [aT]
/-- a run has one end -/
theorem aT_out : ∀ (n : Nat) (m : aM) (pc : Nat) (L st : List Value) (S : aS) (G : aG) (Q : aQ), aT n m pc L st S G Q → ∃ (r : Option Value) (S' : aS) (G' : aG), ∀ Q' : aQ, aT n m pc L st S G Q' ↔ Q' r S' G'
  | 0, _, _, _, _, _, _, _, h => h.elim
  | n + 1, m, pc, L, st, S, G, Q, h => by
    rw [aT_eq] at h
    simp only [aT_eq]
    generalize a_step m pc L st S G = o at h
    match o, h with
    | some (.inl (pc', L', st', S', G')), h => exact aT_out n _ _ _ _ _ _ _ h
    | some (.inr (.inl v)), h => exact ⟨v, S, G, fun Q' => Iff.rfl⟩
    | some (.inr (.inr (m', as, st'))), h =>
      obtain ⟨r, S1, G1, h1⟩ := aT_out n _ _ _ _ _ _ _ h
      obtain ⟨r2, S2, G2, h3⟩ := aT_out n _ _ _ _ _ _ _ ((h1 _).mp h)
      exact ⟨r2, S2, G2, fun Q' => (h1 _).trans (h3 Q')⟩
theorem aT_mono {n : Nat} {m : aM} {pc : Nat} {L st : List Value} {S : aS} {G : aG} {Q Q' : aQ} (h : aT n m pc L st S G Q) (hq : ∀ r S' G', Q r S' G' → Q' r S' G') : aT n m pc L st S G Q' := by
  obtain ⟨r, S', G', h1⟩ := aT_out _ _ _ _ _ _ _ _ h
  exact (h1 Q').mpr (hq _ _ _ ((h1 Q).mp h))
theorem aT_up : ∀ (n : Nat) (m : aM) (pc : Nat) (L st : List Value) (S : aS) (G : aG) (Q : aQ), aT n m pc L st S G Q → aT (n + 1) m pc L st S G Q
  | 0, _, _, _, _, _, _, _, h => h.elim
  | n + 1, m, pc, L, st, S, G, Q, h => by
    rw [aT_eq] at h ⊢
    generalize a_step m pc L st S G = o at h
    match o, h with
    | some (.inl (pc', L', st', S', G')), h => exact aT_up n _ _ _ _ _ _ _ h
    | some (.inr (.inl v)), h => exact h
    | some (.inr (.inr (m', as, st'))), h => exact aT_mono (aT_up n _ _ _ _ _ _ _ h) (fun r S' G' h' => aT_up n _ _ _ _ _ _ _ h')
theorem aT_le {n k : Nat} (hk : n ≤ k) {m : aM} {pc : Nat} {L st : List Value} {S : aS} {G : aG} {Q : aQ} (h : aT n m pc L st S G Q) : aT k m pc L st S G Q := by
  induction hk with
  | refl => exact h
  | step _ ih => exact aT_up _ _ _ _ _ _ _ _ ih
theorem aX_mono {m : aM} {pc : Nat} {L st : List Value} {S : aS} {G : aG} {Q Q' : aQ} (h : aX m pc L st S G Q) (hq : ∀ r S' G', Q r S' G' → Q' r S' G') : aX m pc L st S G Q' := by
  obtain ⟨n, h⟩ := h
  exact ⟨n, aT_mono h hq⟩
theorem aX_out {m : aM} {pc : Nat} {L st : List Value} {S : aS} {G : aG} {Q : aQ} (h : aX m pc L st S G Q) : ∃ (r : Option Value) (S' : aS) (G' : aG), ∀ Q' : aQ, aX m pc L st S G Q' ↔ Q' r S' G' := by
  obtain ⟨n, h⟩ := h
  obtain ⟨r, S', G', h1⟩ := aT_out _ _ _ _ _ _ _ _ h
  refine ⟨r, S', G', fun Q' => ⟨?_, fun hq => ⟨n, (h1 Q').mpr hq⟩⟩⟩
  rintro ⟨k, h2⟩
  have h3 := aT_le (Nat.le_max_left n k) ((h1 (fun a b c => a = r ∧ b = S' ∧ c = G')).mpr ⟨rfl, rfl, rfl⟩)
  have h4 := aT_le (Nat.le_max_right n k) h2
  obtain ⟨r1, S1, G1, h5⟩ := aT_out _ _ _ _ _ _ _ _ h4
  obtain ⟨e1, e2, e3⟩ := (h5 _).mp h3
  subst e1 e2 e3
  exact (h5 Q').mp h4
/-- a run is one run: what is shown of its end is its end -/
theorem aX_det {m : aM} {pc : Nat} {L st : List Value} {S : aS} {G : aG} {r0 : Option Value} {S0 : aS} {G0 : aG} (h : aX m pc L st S G (fun r S' G' => r = r0 ∧ S' = S0 ∧ G' = G0)) (Q : aQ) : aX m pc L st S G Q ↔ Q r0 S0 G0 := by
  obtain ⟨r, S', G', h1⟩ := aX_out h
  obtain ⟨e1, e2, e3⟩ := (h1 _).mp h
  subst e1 e2 e3
  exact h1 Q
-- rules
theorem aX_next {m : aM} {pc : Nat} {L st : List Value} {S : aS} {G : aG} {pc' : Nat} {L' st' : List Value} {S' : aS} {G' : aG} (h : a_step m pc L st S G = a_nx pc' L' st' S' G') (Q : aQ) : aX m pc L st S G Q ↔ aX m pc' L' st' S' G' Q := by
  constructor
  · rintro ⟨n, hn⟩
    cases n with
    | zero => exact hn.elim
    | succ n => rw [aT_eq, h] at hn; exact ⟨n, hn⟩
  · rintro ⟨n, hn⟩
    exact ⟨n + 1, by rw [aT_eq, h]; exact hn⟩
theorem aX_none {m : aM} {pc : Nat} {L st : List Value} {S : aS} {G : aG} (h : a_step m pc L st S G = none) (Q : aQ) : ¬ aX m pc L st S G Q := by
  rintro ⟨n, hn⟩
  cases n with
  | zero => exact hn.elim
  | succ n => rw [aT_eq, h] at hn; exact hn.elim
theorem aX_ret {m : aM} {pc : Nat} {L st : List Value} {S : aS} {G : aG} {v : Option Value} (h : a_step m pc L st S G = some (.inr (.inl v))) (Q : aQ) : aX m pc L st S G Q ↔ Q v S G := by
  constructor
  · rintro ⟨n, hn⟩
    cases n with
    | zero => exact hn.elim
    | succ n => rw [aT_eq, h] at hn; exact hn
  · intro hq
    exact ⟨1, by rw [aT_eq, h]; exact hq⟩
theorem aX_call {m : aM} {pc : Nat} {L st : List Value} {S : aS} {G : aG} {m' : aM} {as st' : List Value} (h : a_step m pc L st S G = some (.inr (.inr (m', as, st')))) (Q : aQ) : aX m pc L st S G Q ↔ aX m' 0 (a_ent m' as) [] S G (fun r S' G' => aX m (pc + 3) L (a_push r st') S' G' Q) := by
  constructor
  · rintro ⟨n, hn⟩
    cases n with
    | zero => exact hn.elim
    | succ n =>
      rw [aT_eq, h] at hn
      exact ⟨n, aT_mono hn (fun r S' G' h' => ⟨n, h'⟩)⟩
  · rintro ⟨n, hn⟩
    obtain ⟨r, S', G', h1⟩ := aT_out _ _ _ _ _ _ _ _ hn
    obtain ⟨k, hk⟩ := (h1 _).mp hn
    refine ⟨max n k + 1, ?_⟩
    rw [aT_eq, h]
    exact aT_le (Nat.le_max_left n k) ((h1 _).mpr (aT_le (Nat.le_max_right n k) hk))
theorem aX_guard {m : aM} {pc : Nat} {L st : List Value} {S : aS} {G : aG} {pc' : Nat} {L' st' : List Value} {S' : aS} {G' : aG} {c : Prop} {dc : Decidable c} (h : a_step m pc L st S G = @a_g c dc (a_nx pc' L' st' S' G')) (Q : aQ) : aX m pc L st S G Q ↔ (c ∧ aX m pc' L' st' S' G' Q) := by
  by_cases hc : c
  · rw [aX_next (by rw [h, a_g, if_pos hc]) Q]; exact ⟨fun x => ⟨hc, x⟩, fun x => x.2⟩
  · exact ⟨fun x => (aX_none (by rw [h, a_g, if_neg hc]) Q x).elim, fun x => (hc x.1).elim⟩
theorem aX_branch {m : aM} {pc : Nat} {L st : List Value} {S : aS} {G : aG} {c : Prop} {dc : Decidable c} {p1 p2 : Nat} {L1 st1 L2 st2 : List Value} {S1 S2 : aS} {G1 G2 : aG} (h : a_step m pc L st S G = @ite _ c dc (a_nx p1 L1 st1 S1 G1) (a_nx p2 L2 st2 S2 G2)) (Q : aQ) : aX m pc L st S G Q ↔ ((c → aX m p1 L1 st1 S1 G1 Q) ∧ (¬ c → aX m p2 L2 st2 S2 G2 Q)) := by
  by_cases hc : c
  · rw [aX_next (by rw [h, if_pos hc]) Q]; exact ⟨fun x => ⟨fun _ => x, fun n => (n hc).elim⟩, fun x => x.1 hc⟩
  · rw [aX_next (by rw [h, if_neg hc]) Q]; exact ⟨fun x => ⟨fun n => (hc n).elim, fun _ => x⟩, fun x => x.2 hc⟩
theorem aX_callg {m : aM} {pc : Nat} {L st : List Value} {S : aS} {G : aG} {c : Prop} {dc : Decidable c} {m' : aM} {as st' : List Value} (h : a_step m pc L st S G = @a_g c dc (some (.inr (.inr (m', as, st'))))) (Q : aQ) : aX m pc L st S G Q ↔ (c ∧ aX m' 0 (a_ent m' as) [] S G (fun r S' G' => aX m (pc + 3) L (a_push r st') S' G' Q)) := by
  by_cases hc : c
  · rw [aX_call (by rw [h, a_g, if_pos hc]) Q]; exact ⟨fun x => ⟨hc, x⟩, fun x => x.2⟩
  · exact ⟨fun x => (aX_none (by rw [h, a_g, if_neg hc]) Q x).elim, fun x => (hc x.1).elim⟩
theorem aX_retg {m : aM} {pc : Nat} {L st : List Value} {S : aS} {G : aG} {c : Prop} {dc : Decidable c} {v : Option Value} (h : a_step m pc L st S G = @a_g c dc (some (.inr (.inl v)))) (Q : aQ) : aX m pc L st S G Q ↔ (c ∧ Q v S G) := by
  by_cases hc : c
  · rw [aX_ret (by rw [h, a_g, if_pos hc]) Q]; exact ⟨fun x => ⟨hc, x⟩, fun x => x.2⟩
  · exact ⟨fun x => (aX_none (by rw [h, a_g, if_neg hc]) Q x).elim, fun x => (hc x.1).elim⟩
