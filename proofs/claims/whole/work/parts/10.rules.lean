/-! RULES: an instruction, a row, as an equivalence -/
def a_pf (S : aS) (a j : Nat) (v : Int32) : aS := a_wr S a (upd (S a) j v)
theorem a_pf_row (S : aS) {a b : Nat} (j : Nat) (v : Int32) (h : b ≠ a) : a_pf S a j v b = S b := a_wr_ne _ _ h
theorem a_pf_same (S : aS) (a j : Nat) (v : Int32) : a_pf S a j v a j = v := by simp [a_pf, a_wr, upd]
theorem a_pf_at (S : aS) (a j : Nat) (v : Int32) (i : Nat) : a_pf S a j v a i = if i = j then v else S a i := by simp [a_pf, a_wr, upd]
theorem a_pf_ne (S : aS) (a : Nat) {j i : Nat} (v : Int32) (h : i ≠ j) : a_pf S a j v a i = S a i := by simp [a_pf, a_wr, upd, h]
theorem a_pf_pf (S : aS) (a j : Nat) (v w : Int32) : a_pf (a_pf S a j v) a j w = a_pf S a j w := by
  funext b i
  by_cases hb : b = a
  · subst hb; by_cases hi : i = j <;> simp [a_pf, a_wr, upd, hi]
  · simp [a_pf, a_wr, hb]
theorem a_push_s (v : Value) (st : List Value) : a_push (some v) st = v :: st := rfl
theorem a_push_n (st : List Value) : a_push none st = st := rfl
section
variable {m : aM} {pc : Nat} {L st r : List Value} {S : aS} {G : aG} {Q : aQ}
theorem X_iconst {n : Int} {v : Int32} (hd : decode m.2.2.1 pc = .ok (.iconst n, 1)) (hv : Int32.ofInt n = v) : aX m pc L st S G Q ↔ aX m (pc + 1) L (.int v :: st) S G Q := by subst hv; exact aX_next (by simp only [a_step, hd]; rfl) Q
theorem X_bipush {n : Int} {v : Int32} (hd : decode m.2.2.1 pc = .ok (.bipush n, 2)) (hv : (Int8.ofInt n).toInt32 = v) : aX m pc L st S G Q ↔ aX m (pc + 2) L (.int v :: st) S G Q := by subst hv; exact aX_next (by simp only [a_step, hd]; rfl) Q
theorem X_sipush {n : Int} {v : Int32} (hd : decode m.2.2.1 pc = .ok (.sipush n, 3)) (hv : (Int16.ofInt n).toInt32 = v) : aX m pc L st S G Q ↔ aX m (pc + 3) L (.int v :: st) S G Q := by subst hv; exact aX_next (by simp only [a_step, hd]; rfl) Q
theorem X_lconst {n : Fin 2} {v : Int64} (hd : decode m.2.2.1 pc = .ok (.lconst n, 1)) (hv : Int64.ofNat (n : Nat) = v) : aX m pc L st S G Q ↔ aX m (pc + 1) L (.long v :: st) S G Q := by subst hv; exact aX_next (by simp only [a_step, hd]; rfl) Q
theorem X_iload_n {k : Fin 4} {x : Int32} (hd : decode m.2.2.1 pc = .ok (.iload_n k, 1)) (hl : a_ld L (k : Nat) = .int x) : aX m pc L st S G Q ↔ aX m (pc + 1) L (.int x :: st) S G Q := aX_next (by simp only [a_step, hd, a_ins, hl]; rfl) Q
theorem X_iload {k : Nat} {x : Int32} (hd : decode m.2.2.1 pc = .ok (.iload k, 2)) (hl : a_ld L k = .int x) : aX m pc L st S G Q ↔ aX m (pc + 2) L (.int x :: st) S G Q := aX_next (by simp only [a_step, hd, a_ins, hl]; rfl) Q
theorem X_lload_n {k : Fin 4} {x : Int64} (hd : decode m.2.2.1 pc = .ok (.lload_n k, 1)) (hl : a_ld L (k : Nat) = .long x) : aX m pc L st S G Q ↔ aX m (pc + 1) L (.long x :: st) S G Q := aX_next (by simp only [a_step, hd, a_ins, hl]; rfl) Q
theorem X_lload {k : Nat} {x : Int64} (hd : decode m.2.2.1 pc = .ok (.lload k, 2)) (hl : a_ld L k = .long x) : aX m pc L st S G Q ↔ aX m (pc + 2) L (.long x :: st) S G Q := aX_next (by simp only [a_step, hd, a_ins, hl]; rfl) Q
theorem X_aload_n {k : Fin 4} {x : Nat} (hd : decode m.2.2.1 pc = .ok (.aload_n k, 1)) (hl : a_ld L (k : Nat) = .ref x) : aX m pc L st S G Q ↔ aX m (pc + 1) L (.ref x :: st) S G Q := aX_next (by simp only [a_step, hd, a_ins, hl]; rfl) Q
theorem X_aload {k : Nat} {x : Nat} (hd : decode m.2.2.1 pc = .ok (.aload k, 2)) (hl : a_ld L k = .ref x) : aX m pc L st S G Q ↔ aX m (pc + 2) L (.ref x :: st) S G Q := aX_next (by simp only [a_step, hd, a_ins, hl]; rfl) Q
theorem X_istore_n {k : Fin 4} {x : Int32} {L' : List Value} (hd : decode m.2.2.1 pc = .ok (.istore_n k, 1)) (hc : (k : Nat) < L.length ∧ ((k : Nat) = 0 ∨ (L.getD ((k : Nat) - 1) .null).category = 1)) (hL : L.set (k : Nat) (.int x) = L') : aX m pc L (.int x :: r) S G Q ↔ aX m (pc + 1) L' r S G Q := by
  subst hL; exact aX_next (by simp only [a_step, hd, a_ins, a_ln, a_i1, a_st, if_pos hc]; rfl) Q
theorem X_istore {k : Nat} {x : Int32} {L' : List Value} (hd : decode m.2.2.1 pc = .ok (.istore k, 2)) (hc : k < L.length ∧ (k = 0 ∨ (L.getD (k - 1) .null).category = 1)) (hL : L.set k (.int x) = L') : aX m pc L (.int x :: r) S G Q ↔ aX m (pc + 2) L' r S G Q := by
  subst hL; exact aX_next (by simp only [a_step, hd, a_ins, a_ln, a_i1, a_st, if_pos hc]; rfl) Q
theorem X_lstore_n {k : Fin 4} {x : Int64} {L' : List Value} (hd : decode m.2.2.1 pc = .ok (.lstore_n k, 1)) (hc : (k : Nat) + 1 < L.length ∧ ((k : Nat) = 0 ∨ (L.getD ((k : Nat) - 1) .null).category = 1)) (hL : (L.set (k : Nat) (.long x)).set ((k : Nat) + 1) .null = L') : aX m pc L (.long x :: r) S G Q ↔ aX m (pc + 1) L' r S G Q := by
  subst hL; exact aX_next (by simp only [a_step, hd, a_ins, a_ln, a_l1, a_st2, if_pos hc]; rfl) Q
theorem X_iinc {k : Nat} {n : Int} {x y : Int32} {L' : List Value} (hd : decode m.2.2.1 pc = .ok (.iinc k n, 3)) (hl : a_ld L k = .int x) (hy : Int32.ofInt n = y) (hc : k < L.length ∧ (k = 0 ∨ (L.getD (k - 1) .null).category = 1)) (hL : L.set k (.int (x + y)) = L') : aX m pc L st S G Q ↔ aX m (pc + 3) L' st S G Q := by
  subst hy; subst hL; exact aX_next (by simp only [a_step, hd, a_ins, a_ln, hl, a_i1, a_st, if_pos hc]; rfl) Q
theorem X_iadd {x y : Int32} (hd : decode m.2.2.1 pc = .ok (.iadd, 1)) : aX m pc L (.int y :: .int x :: r) S G Q ↔ aX m (pc + 1) L (.int (x + y) :: r) S G Q := aX_next (by simp only [a_step, hd]; rfl) Q
theorem X_isub {x y : Int32} (hd : decode m.2.2.1 pc = .ok (.isub, 1)) : aX m pc L (.int y :: .int x :: r) S G Q ↔ aX m (pc + 1) L (.int (x - y) :: r) S G Q := aX_next (by simp only [a_step, hd]; rfl) Q
theorem X_imul {x y : Int32} (hd : decode m.2.2.1 pc = .ok (.imul, 1)) : aX m pc L (.int y :: .int x :: r) S G Q ↔ aX m (pc + 1) L (.int (x * y) :: r) S G Q := aX_next (by simp only [a_step, hd]; rfl) Q
theorem X_iand {x y : Int32} (hd : decode m.2.2.1 pc = .ok (.iand, 1)) : aX m pc L (.int y :: .int x :: r) S G Q ↔ aX m (pc + 1) L (.int (x &&& y) :: r) S G Q := aX_next (by simp only [a_step, hd]; rfl) Q
theorem X_ior {x y : Int32} (hd : decode m.2.2.1 pc = .ok (.ior, 1)) : aX m pc L (.int y :: .int x :: r) S G Q ↔ aX m (pc + 1) L (.int (x ||| y) :: r) S G Q := aX_next (by simp only [a_step, hd]; rfl) Q
theorem X_ixor {x y : Int32} (hd : decode m.2.2.1 pc = .ok (.ixor, 1)) : aX m pc L (.int y :: .int x :: r) S G Q ↔ aX m (pc + 1) L (.int (x ^^^ y) :: r) S G Q := aX_next (by simp only [a_step, hd]; rfl) Q
theorem X_ishl {x y : Int32} (hd : decode m.2.2.1 pc = .ok (.ishl, 1)) : aX m pc L (.int y :: .int x :: r) S G Q ↔ aX m (pc + 1) L (.int (x <<< (y &&& 31)) :: r) S G Q := aX_next (by simp only [a_step, hd]; rfl) Q
theorem X_ishr {x y : Int32} (hd : decode m.2.2.1 pc = .ok (.ishr, 1)) : aX m pc L (.int y :: .int x :: r) S G Q ↔ aX m (pc + 1) L (.int (x >>> (y &&& 31)) :: r) S G Q := aX_next (by simp only [a_step, hd]; rfl) Q
theorem X_iushr {x y : Int32} (hd : decode m.2.2.1 pc = .ok (.iushr, 1)) : aX m pc L (.int y :: .int x :: r) S G Q ↔ aX m (pc + 1) L (.int ((x.toUInt32 >>> (y.toUInt32 &&& Int32.toUInt32 31)).toInt32) :: r) S G Q := aX_next (by simp only [a_step, hd]; rfl) Q
theorem X_ladd {x y : Int64} (hd : decode m.2.2.1 pc = .ok (.ladd, 1)) : aX m pc L (.long y :: .long x :: r) S G Q ↔ aX m (pc + 1) L (.long (x + y) :: r) S G Q := aX_next (by simp only [a_step, hd]; rfl) Q
theorem X_lsub {x y : Int64} (hd : decode m.2.2.1 pc = .ok (.lsub, 1)) : aX m pc L (.long y :: .long x :: r) S G Q ↔ aX m (pc + 1) L (.long (x - y) :: r) S G Q := aX_next (by simp only [a_step, hd]; rfl) Q
theorem X_lmul {x y : Int64} (hd : decode m.2.2.1 pc = .ok (.lmul, 1)) : aX m pc L (.long y :: .long x :: r) S G Q ↔ aX m (pc + 1) L (.long (x * y) :: r) S G Q := aX_next (by simp only [a_step, hd]; rfl) Q
theorem X_land {x y : Int64} (hd : decode m.2.2.1 pc = .ok (.land, 1)) : aX m pc L (.long y :: .long x :: r) S G Q ↔ aX m (pc + 1) L (.long (x &&& y) :: r) S G Q := aX_next (by simp only [a_step, hd]; rfl) Q
theorem X_lor {x y : Int64} (hd : decode m.2.2.1 pc = .ok (.lor, 1)) : aX m pc L (.long y :: .long x :: r) S G Q ↔ aX m (pc + 1) L (.long (x ||| y) :: r) S G Q := aX_next (by simp only [a_step, hd]; rfl) Q
theorem X_lcmp {x y : Int64} (hd : decode m.2.2.1 pc = .ok (.lcmp, 1)) : aX m pc L (.long y :: .long x :: r) S G Q ↔ aX m (pc + 1) L (.int (lg_cmp x y) :: r) S G Q := aX_next (by simp only [a_step, hd]; rfl) Q
theorem X_idiv {x y : Int32} (hd : decode m.2.2.1 pc = .ok (.idiv, 1)) : aX m pc L (.int y :: .int x :: r) S G Q ↔ (¬ y = 0 ∧ aX m (pc + 1) L (.int (x / y) :: r) S G Q) := aX_guard (by simp only [a_step, hd]; rfl) Q
theorem X_irem {x y : Int32} (hd : decode m.2.2.1 pc = .ok (.irem, 1)) : aX m pc L (.int y :: .int x :: r) S G Q ↔ (¬ y = 0 ∧ aX m (pc + 1) L (.int (x - x / y * y) :: r) S G Q) := aX_guard (by simp only [a_step, hd]; rfl) Q
theorem X_ldiv {x y : Int64} (hd : decode m.2.2.1 pc = .ok (.ldiv, 1)) : aX m pc L (.long y :: .long x :: r) S G Q ↔ (¬ y = 0 ∧ aX m (pc + 1) L (.long (x / y) :: r) S G Q) := aX_guard (by simp only [a_step, hd]; rfl) Q
theorem X_lrem {x y : Int64} (hd : decode m.2.2.1 pc = .ok (.lrem, 1)) : aX m pc L (.long y :: .long x :: r) S G Q ↔ (¬ y = 0 ∧ aX m (pc + 1) L (.long (x - x / y * y) :: r) S G Q) := aX_guard (by simp only [a_step, hd]; rfl) Q
theorem X_ineg {x : Int32} (hd : decode m.2.2.1 pc = .ok (.ineg, 1)) : aX m pc L (.int x :: r) S G Q ↔ aX m (pc + 1) L (.int (-x) :: r) S G Q := aX_next (by simp only [a_step, hd]; rfl) Q
theorem X_lshl {y : Int32} {x : Int64} (hd : decode m.2.2.1 pc = .ok (.lshl, 1)) : aX m pc L (.int y :: .long x :: r) S G Q ↔ aX m (pc + 1) L (.long (x <<< (y.toInt64 &&& 63)) :: r) S G Q := aX_next (by simp only [a_step, hd]; rfl) Q
theorem X_lushr {y : Int32} {x : Int64} (hd : decode m.2.2.1 pc = .ok (.lushr, 1)) : aX m pc L (.int y :: .long x :: r) S G Q ↔ aX m (pc + 1) L (.long (x.toUInt64 >>> (y.toInt64.toUInt64 &&& Int64.toUInt64 63)).toInt64 :: r) S G Q := aX_next (by simp only [a_step, hd]; rfl) Q
theorem X_i2l {x : Int32} (hd : decode m.2.2.1 pc = .ok (.i2l, 1)) : aX m pc L (.int x :: r) S G Q ↔ aX m (pc + 1) L (.long x.toInt64 :: r) S G Q := aX_next (by simp only [a_step, hd]; rfl) Q
theorem X_l2i {x : Int64} (hd : decode m.2.2.1 pc = .ok (.l2i, 1)) : aX m pc L (.long x :: r) S G Q ↔ aX m (pc + 1) L (.int x.toInt32 :: r) S G Q := aX_next (by simp only [a_step, hd]; rfl) Q
theorem X_dup {v : Value} (hd : decode m.2.2.1 pc = .ok (.dup, 1)) (hc : v.category = 1) : aX m pc L (v :: r) S G Q ↔ aX m (pc + 1) L (v :: v :: r) S G Q := aX_next (by simp only [a_step, hd, a_ins, a_ln, a_g, if_pos hc]; rfl) Q
theorem X_dup2 {v w : Value} (hd : decode m.2.2.1 pc = .ok (.dup2, 1)) (hc : v.category = 1 ∧ w.category = 1) : aX m pc L (v :: w :: r) S G Q ↔ aX m (pc + 1) L (v :: w :: v :: w :: r) S G Q := aX_next (by simp only [a_step, hd, a_ins, a_ln, a_g, if_pos hc]; rfl) Q
theorem X_pop {v : Value} (hd : decode m.2.2.1 pc = .ok (.pop, 1)) (hc : v.category = 1) : aX m pc L (v :: r) S G Q ↔ aX m (pc + 1) L r S G Q := aX_next (by simp only [a_step, hd, a_ins, a_ln, a_g, if_pos hc]; rfl) Q
theorem X_goto {off : Int} {t : Nat} (hd : decode m.2.2.1 pc = .ok (.goto off, 3)) (ht : (pc : Int) + off = (t : Int)) : aX m pc L st S G Q ↔ aX m t L st S G Q := by
  have e1 : a_tg pc off = t := by unfold a_tg; omega
  have e2 : 0 ≤ (pc : Int) + off := by omega
  exact aX_next (by simp only [a_step, hd, a_ins, a_ln, a_jp, if_pos e2, e1]; rfl) Q
theorem X_if_eq {x : Int32} {off : Int} {t : Nat} (hd : decode m.2.2.1 pc = .ok (.ifCond .eq off, 3)) (ht : (pc : Int) + off = (t : Int)) : aX m pc L (.int x :: r) S G Q ↔ ((x = 0 → aX m t L r S G Q) ∧ (¬ x = 0 → aX m (pc + 3) L r S G Q)) := by
  have e1 : a_tg pc off = t := by unfold a_tg; omega
  have e2 : 0 ≤ (pc : Int) + off := by omega
  have e3 : (a_cnd .eq x 0 = true) ↔ (x = 0) := by simp [a_cnd]
  have h := aX_branch (m := m) (pc := pc) (L := L) (st := .int x :: r) (S := S) (G := G) (c := a_cnd .eq x 0 = true) (dc := instDecidableEqBool _ _) (p1 := t) (p2 := pc + 3) (L1 := L) (L2 := L) (st1 := r) (st2 := r) (S1 := S) (S2 := S) (G1 := G) (G2 := G) (by simp only [a_step, hd, a_ins, a_ln, a_i2, a_i1, a_jp, if_pos e2, e1, if_true]) Q
  rw [h, e3]
theorem X_icmp_eq {x y : Int32} {off : Int} {t : Nat} (hd : decode m.2.2.1 pc = .ok (.if_icmp .eq off, 3)) (ht : (pc : Int) + off = (t : Int)) : aX m pc L (.int y :: .int x :: r) S G Q ↔ ((x = y → aX m t L r S G Q) ∧ (¬ x = y → aX m (pc + 3) L r S G Q)) := by
  have e1 : a_tg pc off = t := by unfold a_tg; omega
  have e2 : 0 ≤ (pc : Int) + off := by omega
  have e3 : (a_cnd .eq x y = true) ↔ (x = y) := by simp [a_cnd]
  have h := aX_branch (m := m) (pc := pc) (L := L) (st := .int y :: .int x :: r) (S := S) (G := G) (c := a_cnd .eq x y = true) (dc := instDecidableEqBool _ _) (p1 := t) (p2 := pc + 3) (L1 := L) (L2 := L) (st1 := r) (st2 := r) (S1 := S) (S2 := S) (G1 := G) (G2 := G) (by simp only [a_step, hd, a_ins, a_ln, a_i2, a_i1, a_jp, if_pos e2, e1, if_true]) Q
  rw [h, e3]
theorem X_if_ne {x : Int32} {off : Int} {t : Nat} (hd : decode m.2.2.1 pc = .ok (.ifCond .ne off, 3)) (ht : (pc : Int) + off = (t : Int)) : aX m pc L (.int x :: r) S G Q ↔ ((¬ x = 0 → aX m t L r S G Q) ∧ (x = 0 → aX m (pc + 3) L r S G Q)) := by
  have e1 : a_tg pc off = t := by unfold a_tg; omega
  have e2 : 0 ≤ (pc : Int) + off := by omega
  have e3 : (a_cnd .ne x 0 = true) ↔ (¬ x = 0) := by simp [a_cnd]
  have h := aX_branch (m := m) (pc := pc) (L := L) (st := .int x :: r) (S := S) (G := G) (c := a_cnd .ne x 0 = true) (dc := instDecidableEqBool _ _) (p1 := t) (p2 := pc + 3) (L1 := L) (L2 := L) (st1 := r) (st2 := r) (S1 := S) (S2 := S) (G1 := G) (G2 := G) (by simp only [a_step, hd, a_ins, a_ln, a_i2, a_i1, a_jp, if_pos e2, e1, if_true]) Q
  rw [h, e3]
  simp only [Decidable.not_not]
theorem X_icmp_ne {x y : Int32} {off : Int} {t : Nat} (hd : decode m.2.2.1 pc = .ok (.if_icmp .ne off, 3)) (ht : (pc : Int) + off = (t : Int)) : aX m pc L (.int y :: .int x :: r) S G Q ↔ ((¬ x = y → aX m t L r S G Q) ∧ (x = y → aX m (pc + 3) L r S G Q)) := by
  have e1 : a_tg pc off = t := by unfold a_tg; omega
  have e2 : 0 ≤ (pc : Int) + off := by omega
  have e3 : (a_cnd .ne x y = true) ↔ (¬ x = y) := by simp [a_cnd]
  have h := aX_branch (m := m) (pc := pc) (L := L) (st := .int y :: .int x :: r) (S := S) (G := G) (c := a_cnd .ne x y = true) (dc := instDecidableEqBool _ _) (p1 := t) (p2 := pc + 3) (L1 := L) (L2 := L) (st1 := r) (st2 := r) (S1 := S) (S2 := S) (G1 := G) (G2 := G) (by simp only [a_step, hd, a_ins, a_ln, a_i2, a_i1, a_jp, if_pos e2, e1, if_true]) Q
  rw [h, e3]
  simp only [Decidable.not_not]
theorem X_if_lt {x : Int32} {off : Int} {t : Nat} (hd : decode m.2.2.1 pc = .ok (.ifCond .lt off, 3)) (ht : (pc : Int) + off = (t : Int)) : aX m pc L (.int x :: r) S G Q ↔ ((x < 0 → aX m t L r S G Q) ∧ (¬ x < 0 → aX m (pc + 3) L r S G Q)) := by
  have e1 : a_tg pc off = t := by unfold a_tg; omega
  have e2 : 0 ≤ (pc : Int) + off := by omega
  have e3 : (a_cnd .lt x 0 = true) ↔ (x < 0) := by simp [a_cnd]
  have h := aX_branch (m := m) (pc := pc) (L := L) (st := .int x :: r) (S := S) (G := G) (c := a_cnd .lt x 0 = true) (dc := instDecidableEqBool _ _) (p1 := t) (p2 := pc + 3) (L1 := L) (L2 := L) (st1 := r) (st2 := r) (S1 := S) (S2 := S) (G1 := G) (G2 := G) (by simp only [a_step, hd, a_ins, a_ln, a_i2, a_i1, a_jp, if_pos e2, e1, if_true]) Q
  rw [h, e3]
theorem X_icmp_lt {x y : Int32} {off : Int} {t : Nat} (hd : decode m.2.2.1 pc = .ok (.if_icmp .lt off, 3)) (ht : (pc : Int) + off = (t : Int)) : aX m pc L (.int y :: .int x :: r) S G Q ↔ ((x < y → aX m t L r S G Q) ∧ (¬ x < y → aX m (pc + 3) L r S G Q)) := by
  have e1 : a_tg pc off = t := by unfold a_tg; omega
  have e2 : 0 ≤ (pc : Int) + off := by omega
  have e3 : (a_cnd .lt x y = true) ↔ (x < y) := by simp [a_cnd]
  have h := aX_branch (m := m) (pc := pc) (L := L) (st := .int y :: .int x :: r) (S := S) (G := G) (c := a_cnd .lt x y = true) (dc := instDecidableEqBool _ _) (p1 := t) (p2 := pc + 3) (L1 := L) (L2 := L) (st1 := r) (st2 := r) (S1 := S) (S2 := S) (G1 := G) (G2 := G) (by simp only [a_step, hd, a_ins, a_ln, a_i2, a_i1, a_jp, if_pos e2, e1, if_true]) Q
  rw [h, e3]
theorem X_if_ge {x : Int32} {off : Int} {t : Nat} (hd : decode m.2.2.1 pc = .ok (.ifCond .ge off, 3)) (ht : (pc : Int) + off = (t : Int)) : aX m pc L (.int x :: r) S G Q ↔ ((0 ≤ x → aX m t L r S G Q) ∧ (¬ 0 ≤ x → aX m (pc + 3) L r S G Q)) := by
  have e1 : a_tg pc off = t := by unfold a_tg; omega
  have e2 : 0 ≤ (pc : Int) + off := by omega
  have e3 : (a_cnd .ge x 0 = true) ↔ (0 ≤ x) := by simp [a_cnd]
  have h := aX_branch (m := m) (pc := pc) (L := L) (st := .int x :: r) (S := S) (G := G) (c := a_cnd .ge x 0 = true) (dc := instDecidableEqBool _ _) (p1 := t) (p2 := pc + 3) (L1 := L) (L2 := L) (st1 := r) (st2 := r) (S1 := S) (S2 := S) (G1 := G) (G2 := G) (by simp only [a_step, hd, a_ins, a_ln, a_i2, a_i1, a_jp, if_pos e2, e1, if_true]) Q
  rw [h, e3]
theorem X_icmp_ge {x y : Int32} {off : Int} {t : Nat} (hd : decode m.2.2.1 pc = .ok (.if_icmp .ge off, 3)) (ht : (pc : Int) + off = (t : Int)) : aX m pc L (.int y :: .int x :: r) S G Q ↔ ((y ≤ x → aX m t L r S G Q) ∧ (¬ y ≤ x → aX m (pc + 3) L r S G Q)) := by
  have e1 : a_tg pc off = t := by unfold a_tg; omega
  have e2 : 0 ≤ (pc : Int) + off := by omega
  have e3 : (a_cnd .ge x y = true) ↔ (y ≤ x) := by simp [a_cnd]
  have h := aX_branch (m := m) (pc := pc) (L := L) (st := .int y :: .int x :: r) (S := S) (G := G) (c := a_cnd .ge x y = true) (dc := instDecidableEqBool _ _) (p1 := t) (p2 := pc + 3) (L1 := L) (L2 := L) (st1 := r) (st2 := r) (S1 := S) (S2 := S) (G1 := G) (G2 := G) (by simp only [a_step, hd, a_ins, a_ln, a_i2, a_i1, a_jp, if_pos e2, e1, if_true]) Q
  rw [h, e3]
theorem X_if_gt {x : Int32} {off : Int} {t : Nat} (hd : decode m.2.2.1 pc = .ok (.ifCond .gt off, 3)) (ht : (pc : Int) + off = (t : Int)) : aX m pc L (.int x :: r) S G Q ↔ ((0 < x → aX m t L r S G Q) ∧ (¬ 0 < x → aX m (pc + 3) L r S G Q)) := by
  have e1 : a_tg pc off = t := by unfold a_tg; omega
  have e2 : 0 ≤ (pc : Int) + off := by omega
  have e3 : (a_cnd .gt x 0 = true) ↔ (0 < x) := by simp [a_cnd]
  have h := aX_branch (m := m) (pc := pc) (L := L) (st := .int x :: r) (S := S) (G := G) (c := a_cnd .gt x 0 = true) (dc := instDecidableEqBool _ _) (p1 := t) (p2 := pc + 3) (L1 := L) (L2 := L) (st1 := r) (st2 := r) (S1 := S) (S2 := S) (G1 := G) (G2 := G) (by simp only [a_step, hd, a_ins, a_ln, a_i2, a_i1, a_jp, if_pos e2, e1, if_true]) Q
  rw [h, e3]
theorem X_icmp_gt {x y : Int32} {off : Int} {t : Nat} (hd : decode m.2.2.1 pc = .ok (.if_icmp .gt off, 3)) (ht : (pc : Int) + off = (t : Int)) : aX m pc L (.int y :: .int x :: r) S G Q ↔ ((y < x → aX m t L r S G Q) ∧ (¬ y < x → aX m (pc + 3) L r S G Q)) := by
  have e1 : a_tg pc off = t := by unfold a_tg; omega
  have e2 : 0 ≤ (pc : Int) + off := by omega
  have e3 : (a_cnd .gt x y = true) ↔ (y < x) := by simp [a_cnd]
  have h := aX_branch (m := m) (pc := pc) (L := L) (st := .int y :: .int x :: r) (S := S) (G := G) (c := a_cnd .gt x y = true) (dc := instDecidableEqBool _ _) (p1 := t) (p2 := pc + 3) (L1 := L) (L2 := L) (st1 := r) (st2 := r) (S1 := S) (S2 := S) (G1 := G) (G2 := G) (by simp only [a_step, hd, a_ins, a_ln, a_i2, a_i1, a_jp, if_pos e2, e1, if_true]) Q
  rw [h, e3]
theorem X_if_le {x : Int32} {off : Int} {t : Nat} (hd : decode m.2.2.1 pc = .ok (.ifCond .le off, 3)) (ht : (pc : Int) + off = (t : Int)) : aX m pc L (.int x :: r) S G Q ↔ ((x ≤ 0 → aX m t L r S G Q) ∧ (¬ x ≤ 0 → aX m (pc + 3) L r S G Q)) := by
  have e1 : a_tg pc off = t := by unfold a_tg; omega
  have e2 : 0 ≤ (pc : Int) + off := by omega
  have e3 : (a_cnd .le x 0 = true) ↔ (x ≤ 0) := by simp [a_cnd]
  have h := aX_branch (m := m) (pc := pc) (L := L) (st := .int x :: r) (S := S) (G := G) (c := a_cnd .le x 0 = true) (dc := instDecidableEqBool _ _) (p1 := t) (p2 := pc + 3) (L1 := L) (L2 := L) (st1 := r) (st2 := r) (S1 := S) (S2 := S) (G1 := G) (G2 := G) (by simp only [a_step, hd, a_ins, a_ln, a_i2, a_i1, a_jp, if_pos e2, e1, if_true]) Q
  rw [h, e3]
theorem X_icmp_le {x y : Int32} {off : Int} {t : Nat} (hd : decode m.2.2.1 pc = .ok (.if_icmp .le off, 3)) (ht : (pc : Int) + off = (t : Int)) : aX m pc L (.int y :: .int x :: r) S G Q ↔ ((x ≤ y → aX m t L r S G Q) ∧ (¬ x ≤ y → aX m (pc + 3) L r S G Q)) := by
  have e1 : a_tg pc off = t := by unfold a_tg; omega
  have e2 : 0 ≤ (pc : Int) + off := by omega
  have e3 : (a_cnd .le x y = true) ↔ (x ≤ y) := by simp [a_cnd]
  have h := aX_branch (m := m) (pc := pc) (L := L) (st := .int y :: .int x :: r) (S := S) (G := G) (c := a_cnd .le x y = true) (dc := instDecidableEqBool _ _) (p1 := t) (p2 := pc + 3) (L1 := L) (L2 := L) (st1 := r) (st2 := r) (S1 := S) (S2 := S) (G1 := G) (G2 := G) (by simp only [a_step, hd, a_ins, a_ln, a_i2, a_i1, a_jp, if_pos e2, e1, if_true]) Q
  rw [h, e3]
theorem X_ldcw {k : Nat} {v : Int32} (hd : decode m.2.2.1 pc = .ok (.ldc_w k, 3)) (hv : a_ki m.1 k = some v) : aX m pc L st S G Q ↔ aX m (pc + 3) L (.int v :: st) S G Q := aX_next (by simp only [a_step, hd, a_ins, a_ln, hv]; rfl) Q
theorem X_ldc2 {k : Nat} {v : Int64} (hd : decode m.2.2.1 pc = .ok (.ldc2_w k, 3)) (hv : a_kl m.1 k = some v) : aX m pc L st S G Q ↔ aX m (pc + 3) L (.long v :: st) S G Q := aX_next (by simp only [a_step, hd, a_ins, a_ln, hv]; rfl) Q
theorem X_gets {k v : Nat} (hd : decode m.2.2.1 pc = .ok (.getstatic k, 3)) (hv : a_gs m.1 k = some v) : aX m pc L st S G Q ↔ aX m (pc + 3) L (.ref v :: st) S G Q := aX_next (by simp only [a_step, hd, a_ins, a_ln, hv]; rfl) Q
theorem X_getI {k ci j a : Nat} (hd : decode m.2.2.1 pc = .ok (.getfield k, 3)) (hf : a_fr m.1 k = some (ci, j)) (ht : (a_fs ci)[j]? = some 0) : aX m pc L (.ref a :: r) S G Q ↔ (a_cls a = ci ∧ aX m (pc + 3) L (.int (S a j) :: r) S G Q) := aX_guard (by simp only [a_step, hd, a_ins, a_ln, hf, ht]; rfl) Q
theorem X_getL {k ci j a : Nat} (hd : decode m.2.2.1 pc = .ok (.getfield k, 3)) (hf : a_fr m.1 k = some (ci, j)) (ht : (a_fs ci)[j]? = some 1) : aX m pc L (.ref a :: r) S G Q ↔ (a_cls a = ci ∧ aX m (pc + 3) L (.long (G a) :: r) S G Q) := aX_guard (by simp only [a_step, hd, a_ins, a_ln, hf, ht]; rfl) Q
theorem X_getR {k ci j a : Nat} (hd : decode m.2.2.1 pc = .ok (.getfield k, 3)) (hf : a_fr m.1 k = some (ci, j)) (ht : (a_fs ci)[j]? = some 2) : aX m pc L (.ref a :: r) S G Q ↔ (a_cls a = ci ∧ aX m (pc + 3) L (.ref (a_rf a j) :: r) S G Q) := aX_guard (by simp only [a_step, hd, a_ins, a_ln, hf, ht]; rfl) Q
theorem X_putI {k ci j a : Nat} {v : Int32} (hd : decode m.2.2.1 pc = .ok (.putfield k, 3)) (hf : a_fr m.1 k = some (ci, j)) (ht : (a_fs ci)[j]? = some 0) : aX m pc L (.int v :: .ref a :: r) S G Q ↔ (a_cls a = ci ∧ aX m (pc + 3) L r (a_pf S a j v) G Q) := aX_guard (by simp only [a_step, hd, a_ins, a_ln, hf, ht]; rfl) Q
theorem X_putL {k ci j a : Nat} {v : Int64} (hd : decode m.2.2.1 pc = .ok (.putfield k, 3)) (hf : a_fr m.1 k = some (ci, j)) (ht : (a_fs ci)[j]? = some 1) : aX m pc L (.long v :: .ref a :: r) S G Q ↔ (a_cls a = ci ∧ aX m (pc + 3) L r S (a_wr G a v) Q) := aX_guard (by simp only [a_step, hd, a_ins, a_ln, hf, ht]; rfl) Q
theorem X_alen {a : Nat} (hd : decode m.2.2.1 pc = .ok (.arraylength, 1)) : aX m pc L (.ref a :: r) S G Q ↔ (0 < a_len S a ∧ aX m (pc + 1) L (.int (Int32.ofNat (a_len S a)) :: r) S G Q) := aX_guard (by simp only [a_step, hd]; rfl) Q
theorem X_iald {a : Nat} {i : Int32} (hd : decode m.2.2.1 pc = .ok (.iaload, 1)) : aX m pc L (.int i :: .ref a :: r) S G Q ↔ (a_in i (a_len S a) ∧ aX m (pc + 1) L (.int (a_get S a i.toNatClampNeg) :: r) S G Q) := aX_guard (by simp only [a_step, hd]; rfl) Q
theorem X_lald {a : Nat} {i : Int32} (hd : decode m.2.2.1 pc = .ok (.laload, 1)) : aX m pc L (.int i :: .ref a :: r) S G Q ↔ ((a = 1003 ∧ a_in i 4) ∧ aX m (pc + 1) L (.long (a_five i.toNatClampNeg) :: r) S G Q) := aX_guard (by simp only [a_step, hd]; rfl) Q
theorem X_bald {a : Nat} {i : Int32} (hd : decode m.2.2.1 pc = .ok (.baload, 1)) : aX m pc L (.int i :: .ref a :: r) S G Q ↔ ((a = 41 ∧ a_in i 2) ∧ aX m (pc + 1) L (.int (S a i.toNatClampNeg) :: r) S G Q) := aX_guard (by simp only [a_step, hd]; rfl) Q
theorem X_iast {a : Nat} {i v : Int32} (hd : decode m.2.2.1 pc = .ok (.iastore, 1)) : aX m pc L (.int v :: .int i :: .ref a :: r) S G Q ↔ ((a < 45 ∧ a_in i (a_len S a)) ∧ aX m (pc + 1) L r (a_pf S a i.toNatClampNeg v) G Q) := aX_guard (by simp only [a_step, hd]; rfl) Q
theorem X_bast {a : Nat} {i v : Int32} (hd : decode m.2.2.1 pc = .ok (.bastore, 1)) : aX m pc L (.int v :: .int i :: .ref a :: r) S G Q ↔ ((a = 41 ∧ a_in i 2 ∧ (v = 0 ∨ v = 1)) ∧ aX m (pc + 1) L r (a_pf S a i.toNatClampNeg v) G Q) := aX_guard (by simp only [a_step, hd]; rfl) Q
theorem X_copy {k a b : Nat} {u : Unit} {sp dp n : Int32} (hd : decode m.2.2.1 pc = .ok (.invokestatic k, 3)) (hac : a_ac m.1 k = some u) (hro : 1 ≤ m.2.2.2.2.2.1 ∧ 18 ≤ m.2.2.2.2.2.2) : aX m pc L [.int n, .int dp, .ref b, .int sp, .ref a] S G Q ↔ (((¬ sp < 0 ∧ ¬ dp < 0 ∧ ¬ n < 0) ∧ (a < 45 ∧ b < 45) ∧ sp.toNatClampNeg + n.toNatClampNeg ≤ a_len S a ∧ dp.toNatClampNeg + n.toNatClampNeg ≤ a_len S b ∧ 0 < a_len S a ∧ 0 < a_len S b) ∧ aX m (pc + 3) L [] (a_wr S b (va_cpy (S a) (S b) sp.toNatClampNeg dp.toNatClampNeg n.toNatClampNeg)) G Q) := by
  have h := aX_guard (m := m) (pc := pc) (L := L) (st := [.int n, .int dp, .ref b, .int sp, .ref a]) (S := S) (G := G) (pc' := pc + 3) (L' := L) (st' := []) (G' := G) (S' := a_wr S b (va_cpy (S a) (S b) sp.toNatClampNeg dp.toNatClampNeg n.toNatClampNeg)) (by simp only [a_step, hd, a_ins, a_ln, hac]; rfl) Q
  rw [h]
  simp only [hro, and_true]
theorem X_max {k : Nat} {x y : Int32} (hd : decode m.2.2.1 pc = .ok (.invokestatic k, 3)) (hac : a_ac m.1 k = none) (hmh : a_mh m.1 k = some 0) (hro : 1 ≤ m.2.2.2.2.2.1) (hw : a_words r + 13 ≤ m.2.2.2.2.2.2) : aX m pc L (.int y :: .int x :: r) S G Q ↔ aX m (pc + 3) L (.int (if x < y then y else x) :: r) S G Q := aX_next (by simp only [a_step, hd, a_ins, a_ln, hac, hmh, a_mth, if_pos hro, a_i2, a_i1, if_pos hw]; rfl) Q
theorem X_min {k : Nat} {x y : Int32} (hd : decode m.2.2.1 pc = .ok (.invokestatic k, 3)) (hac : a_ac m.1 k = none) (hmh : a_mh m.1 k = some 1) (hro : 1 ≤ m.2.2.2.2.2.1) (hw : a_words r + 13 ≤ m.2.2.2.2.2.2) : aX m pc L (.int y :: .int x :: r) S G Q ↔ aX m (pc + 3) L (.int (if y < x then y else x) :: r) S G Q := aX_next (by simp only [a_step, hd, a_ins, a_ln, hac, hmh, a_mth, if_pos hro, a_i2, a_i1, if_pos hw]; rfl) Q
theorem X_abs {k : Nat} {x : Int32} (hd : decode m.2.2.1 pc = .ok (.invokestatic k, 3)) (hac : a_ac m.1 k = none) (hmh : a_mh m.1 k = some 2) (hro : 1 ≤ m.2.2.2.2.2.1) (hw : a_words r + 13 ≤ m.2.2.2.2.2.2) : aX m pc L (.int x :: r) S G Q ↔ aX m (pc + 3) L (.int (if 0 ≤ x then x else 0 - x) :: r) S G Q := aX_next (by simp only [a_step, hd, a_ins, a_ln, hac, hmh, a_mth, if_pos hro, a_i1, if_pos hw]; rfl) Q
theorem X_invV {k n a : Nat} {m' : aM} {as L' : List Value} (hd : decode m.2.2.1 pc = .ok (.invokevirtual k, 3)) (hcr : a_cr m.1 k = some (1, n, m')) (hro : m'.2.2.2.2.2.1 + 1 ≤ m.2.2.2.2.2.1 ∧ 8 + (m'.2.2.2.1 + 11) + m'.2.2.2.2.2.2 ≤ m.2.2.2.2.2.2) (htk : a_take (n + 1) [] st = some (.ref a :: as, r)) (hw : a_words r ≤ 8 ∧ (a_ex (.ref a :: as)).length ≤ m'.2.2.2.1) (hL : a_ent m' (.ref a :: as) = L') : aX m pc L st S G Q ↔ (a_cls a = m'.1 ∧ aX m' 0 L' [] S G (fun v S' G' => aX m (pc + 3) L (a_push v r) S' G' Q)) := by
  subst hL
  exact aX_callg (dc := instDecidableEqNat _ _) (by simp only [a_step, hd, a_ins, a_ln, if_pos, a_inv, hcr, List.mem_singleton, hro, and_self, htk, hw]) Q
theorem X_invS {k n kd : Nat} {m' : aM} {as L' : List Value} (hd : decode m.2.2.1 pc = .ok (.invokestatic k, 3)) (hac : a_ac m.1 k = none) (hmh : a_mh m.1 k = none) (hcr : a_cr m.1 k = some (kd, n, m')) (hkd : kd ∈ [0, 2]) (hro : m'.2.2.2.2.2.1 + 1 ≤ m.2.2.2.2.2.1 ∧ 8 + (m'.2.2.2.1 + 11) + m'.2.2.2.2.2.2 ≤ m.2.2.2.2.2.2) (htk : a_take (n + 0) [] st = some (as, r)) (hw : a_words r ≤ 8 ∧ (a_ex as).length ≤ m'.2.2.2.1) (hL : a_ent m' as = L') : aX m pc L st S G Q ↔ aX m' 0 L' [] S G (fun v S' G' => aX m (pc + 3) L (a_push v r) S' G' Q) := by
  subst hL
  have h1 : ¬ kd = 1 := by intro e; subst e; simp at hkd
  refine aX_call ?_ Q
  simp only [a_step, hd, a_ins, a_ln, if_pos, hac, hmh, a_inv, hcr, hkd, hro, and_self, htk, hw]
  split
  · exact absurd rfl h1
  · exact absurd rfl h1
  · rfl
theorem X_iretI {v : Int32} (hd : decode m.2.2.1 pc = .ok (.ireturn, 1)) (hr : m.2.2.2.2.1 = some .int) : aX m pc L [.int v] S G Q ↔ Q (some (.int v)) S G := aX_ret (by
  have e : a_okr (.int v) m = true := by unfold a_okr; rw [hr]
  simp only [a_step, hd, a_ins, a_ln, a_g, if_pos e]; rfl) Q
theorem X_iretZ {v : Int32} (hd : decode m.2.2.1 pc = .ok (.ireturn, 1)) (hr : m.2.2.2.2.1 = some .boolean) : aX m pc L [.int v] S G Q ↔ ((v = 0 ∨ v = 1) ∧ Q (some (.int v)) S G) := by
  have e : a_okr (.int v) m = decide (v = 0 ∨ v = 1) := by unfold a_okr; rw [hr]
  have h := aX_retg (m := m) (pc := pc) (L := L) (st := [.int v]) (S := S) (G := G) (v := some (.int v)) (by simp only [a_step, hd]; rfl) Q
  rw [h, e, decide_eq_true_iff]
theorem X_lret {v : Int64} (hd : decode m.2.2.1 pc = .ok (.lreturn, 1)) (hr : m.2.2.2.2.1 = some .long) : aX m pc L [.long v] S G Q ↔ Q (some (.long v)) S G := aX_ret (by
  have e : a_okr (.long v) m = true := by unfold a_okr; rw [hr]
  simp only [a_step, hd, a_ins, a_ln, a_g, if_pos e]; rfl) Q
theorem X_aret {v : Nat} {nm : String} (hd : decode m.2.2.1 pc = .ok (.areturn, 1)) (hr : m.2.2.2.2.1 = some (.object nm)) : aX m pc L [.ref v] S G Q ↔ Q (some (.ref v)) S G := aX_ret (by
  have e : a_okr (.ref v) m = true := by unfold a_okr; rw [hr]
  simp only [a_step, hd, a_ins, a_ln, a_g, if_pos e]; rfl) Q
theorem X_vret (hd : decode m.2.2.1 pc = .ok (.return_, 1)) (hr : m.2.2.2.2.1 = none) : aX m pc L [] S G Q ↔ Q none S G := aX_ret (by
  simp only [a_step, hd, a_ins, a_ln, a_g, if_pos hr]; rfl) Q
theorem X_tswO {d lo hi : Int} {offs : Array Int} {len t : Nat} {x : Int32} (hd : decode m.2.2.1 pc = .ok (.tableswitch d lo hi offs, len)) (hx : x.toInt < lo ∨ hi < x.toInt) (ht : (pc : Int) + d = (t : Int)) : aX m pc L (.int x :: r) S G Q ↔ aX m t L r S G Q := by
  have e1 : a_tg pc d = t := by unfold a_tg; omega
  have e2 : 0 ≤ (pc : Int) + d := by omega
  exact aX_next (by simp only [a_step, hd, a_ins, a_i1, if_pos hx, a_jp, if_pos e2, e1]) Q
theorem X_tswI {d lo hi : Int} {offs : Array Int} {len t : Nat} {x : Int32} {off : Int} (hd : decode m.2.2.1 pc = .ok (.tableswitch d lo hi offs, len)) (hx : ¬ (x.toInt < lo ∨ hi < x.toInt)) (ho : offs[(x.toInt - lo).toNat]? = some off) (ht : (pc : Int) + off = (t : Int)) : aX m pc L (.int x :: r) S G Q ↔ aX m t L r S G Q := by
  have e1 : a_tg pc off = t := by unfold a_tg; omega
  have e2 : 0 ≤ (pc : Int) + off := by omega
  exact aX_next (by simp only [a_step, hd, a_ins, a_i1, if_neg hx, ho, a_jp, if_pos e2, e1]) Q
theorem X_lsw {d : Int} {ps : Array (Int × Int)} {len t : Nat} {x : Int32} {off : Int} (hd : decode m.2.2.1 pc = .ok (.lookupswitch d ps, len)) (hp : (ps.toList.zip (ps.toList.drop 1)).all (fun (a, next) => a.1 < next.1) = true) (ho : Op.lookupswitch.offset ps.toList d x.toInt = off) (ht : (pc : Int) + off = (t : Int)) : aX m pc L (.int x :: r) S G Q ↔ aX m t L r S G Q := by
  have e1 : a_tg pc off = t := by unfold a_tg; omega
  have e2 : 0 ≤ (pc : Int) + off := by omega
  exact aX_next (by simp only [a_step, hd, a_ins, a_i1, a_g, if_pos hp, ho, a_jp, if_pos e2, e1]) Q
end
theorem a_cls_0 : a_cls 0 = 5 := rfl
theorem a_rf_0_0 : a_rf 0 0 = 1 := rfl
theorem a_rf_0_1 : a_rf 0 1 = 3 := rfl
theorem a_rf_0_2 : a_rf 0 2 = 7 := rfl
theorem a_rf_0_3 : a_rf 0 3 = 11 := rfl
theorem a_rf_0_4 : a_rf 0 4 = 15 := rfl
theorem a_rf_0_5 : a_rf 0 5 = 19 := rfl
theorem a_rf_0_6 : a_rf 0 6 = 25 := rfl
theorem a_rf_0_7 : a_rf 0 7 = 30 := rfl
theorem a_rf_0_8 : a_rf 0 8 = 33 := rfl
theorem a_cls_1 : a_cls 1 = 4 := rfl
theorem a_rf_1_0 : a_rf 1 0 = 2 := rfl
theorem a_cls_2 : a_cls 2 = 99 := rfl
theorem a_len_2 (S : aS) : a_len S 2 = 56 := rfl
theorem a_get_2 (S : aS) (i : Nat) : a_get S 2 i = S 2 i := rfl
theorem a_cls_3 : a_cls 3 = 3 := rfl
theorem a_rf_3_0 : a_rf 3 0 = 4 := rfl
theorem a_rf_3_1 : a_rf 3 1 = 5 := rfl
theorem a_rf_3_2 : a_rf 3 2 = 6 := rfl
theorem a_cls_4 : a_cls 4 = 99 := rfl
theorem a_len_4 (S : aS) : a_len S 4 = 25 := rfl
theorem a_get_4 (S : aS) (i : Nat) : a_get S 4 i = S 4 i := rfl
theorem a_cls_5 : a_cls 5 = 99 := rfl
theorem a_len_5 (S : aS) : a_len S 5 = 25 := rfl
theorem a_get_5 (S : aS) (i : Nat) : a_get S 5 i = S 5 i := rfl
theorem a_cls_6 : a_cls 6 = 99 := rfl
theorem a_len_6 (S : aS) : a_len S 6 = 10 := rfl
theorem a_get_6 (S : aS) (i : Nat) : a_get S 6 i = S 6 i := rfl
theorem a_cls_7 : a_cls 7 = 3 := rfl
theorem a_rf_7_0 : a_rf 7 0 = 8 := rfl
theorem a_rf_7_1 : a_rf 7 1 = 9 := rfl
theorem a_rf_7_2 : a_rf 7 2 = 10 := rfl
theorem a_cls_8 : a_cls 8 = 99 := rfl
theorem a_len_8 (S : aS) : a_len S 8 = 25 := rfl
theorem a_get_8 (S : aS) (i : Nat) : a_get S 8 i = S 8 i := rfl
theorem a_cls_9 : a_cls 9 = 99 := rfl
theorem a_len_9 (S : aS) : a_len S 9 = 25 := rfl
theorem a_get_9 (S : aS) (i : Nat) : a_get S 9 i = S 9 i := rfl
theorem a_cls_10 : a_cls 10 = 99 := rfl
theorem a_len_10 (S : aS) : a_len S 10 = 10 := rfl
theorem a_get_10 (S : aS) (i : Nat) : a_get S 10 i = S 10 i := rfl
theorem a_cls_11 : a_cls 11 = 3 := rfl
theorem a_rf_11_0 : a_rf 11 0 = 12 := rfl
theorem a_rf_11_1 : a_rf 11 1 = 13 := rfl
theorem a_rf_11_2 : a_rf 11 2 = 14 := rfl
theorem a_cls_12 : a_cls 12 = 99 := rfl
theorem a_len_12 (S : aS) : a_len S 12 = 25 := rfl
theorem a_get_12 (S : aS) (i : Nat) : a_get S 12 i = S 12 i := rfl
theorem a_cls_13 : a_cls 13 = 99 := rfl
theorem a_len_13 (S : aS) : a_len S 13 = 25 := rfl
theorem a_get_13 (S : aS) (i : Nat) : a_get S 13 i = S 13 i := rfl
theorem a_cls_14 : a_cls 14 = 99 := rfl
theorem a_len_14 (S : aS) : a_len S 14 = 10 := rfl
theorem a_get_14 (S : aS) (i : Nat) : a_get S 14 i = S 14 i := rfl
theorem a_cls_15 : a_cls 15 = 3 := rfl
theorem a_rf_15_0 : a_rf 15 0 = 16 := rfl
theorem a_rf_15_1 : a_rf 15 1 = 17 := rfl
theorem a_rf_15_2 : a_rf 15 2 = 18 := rfl
theorem a_cls_16 : a_cls 16 = 99 := rfl
theorem a_len_16 (S : aS) : a_len S 16 = 25 := rfl
theorem a_get_16 (S : aS) (i : Nat) : a_get S 16 i = S 16 i := rfl
theorem a_cls_17 : a_cls 17 = 99 := rfl
theorem a_len_17 (S : aS) : a_len S 17 = 25 := rfl
theorem a_get_17 (S : aS) (i : Nat) : a_get S 17 i = S 17 i := rfl
theorem a_cls_18 : a_cls 18 = 99 := rfl
theorem a_len_18 (S : aS) : a_len S 18 = 10 := rfl
theorem a_get_18 (S : aS) (i : Nat) : a_get S 18 i = S 18 i := rfl
theorem a_cls_19 : a_cls 19 = 1 := rfl
theorem a_rf_19_0 : a_rf 19 0 = 20 := rfl
theorem a_rf_19_1 : a_rf 19 1 = 21 := rfl
theorem a_rf_19_2 : a_rf 19 2 = 22 := rfl
theorem a_rf_19_3 : a_rf 19 3 = 23 := rfl
theorem a_rf_19_4 : a_rf 19 4 = 24 := rfl
theorem a_cls_20 : a_cls 20 = 99 := rfl
theorem a_len_20 (S : aS) : a_len S 20 = 25 := rfl
theorem a_get_20 (S : aS) (i : Nat) : a_get S 20 i = S 20 i := rfl
theorem a_cls_21 : a_cls 21 = 99 := rfl
theorem a_len_21 (S : aS) : a_len S 21 = 25 := rfl
theorem a_get_21 (S : aS) (i : Nat) : a_get S 21 i = S 21 i := rfl
theorem a_cls_22 : a_cls 22 = 99 := rfl
theorem a_len_22 (S : aS) : a_len S 22 = 25 := rfl
theorem a_get_22 (S : aS) (i : Nat) : a_get S 22 i = S 22 i := rfl
theorem a_cls_23 : a_cls 23 = 99 := rfl
theorem a_len_23 (S : aS) : a_len S 23 = 25 := rfl
theorem a_get_23 (S : aS) (i : Nat) : a_get S 23 i = S 23 i := rfl
theorem a_cls_24 : a_cls 24 = 99 := rfl
theorem a_len_24 (S : aS) : a_len S 24 = 25 := rfl
theorem a_get_24 (S : aS) (i : Nat) : a_get S 24 i = S 24 i := rfl
theorem a_cls_25 : a_cls 25 = 0 := rfl
theorem a_rf_25_0 : a_rf 25 0 = 26 := rfl
theorem a_rf_25_1 : a_rf 25 1 = 27 := rfl
theorem a_rf_25_2 : a_rf 25 2 = 28 := rfl
theorem a_rf_25_3 : a_rf 25 3 = 29 := rfl
theorem a_cls_26 : a_cls 26 = 99 := rfl
theorem a_len_26 (S : aS) : a_len S 26 = 14 := rfl
theorem a_get_26 (S : aS) (i : Nat) : a_get S 26 i = S 26 i := rfl
theorem a_cls_27 : a_cls 27 = 99 := rfl
theorem a_len_27 (S : aS) : a_len S 27 = 14 := rfl
theorem a_get_27 (S : aS) (i : Nat) : a_get S 27 i = S 27 i := rfl
theorem a_cls_28 : a_cls 28 = 99 := rfl
theorem a_len_28 (S : aS) : a_len S 28 = 14 := rfl
theorem a_get_28 (S : aS) (i : Nat) : a_get S 28 i = S 28 i := rfl
theorem a_cls_29 : a_cls 29 = 99 := rfl
theorem a_len_29 (S : aS) : a_len S 29 = 14 := rfl
theorem a_get_29 (S : aS) (i : Nat) : a_get S 29 i = S 29 i := rfl
theorem a_cls_30 : a_cls 30 = 2 := rfl
theorem a_rf_30_0 : a_rf 30 0 = 31 := rfl
theorem a_rf_30_1 : a_rf 30 1 = 32 := rfl
theorem a_cls_31 : a_cls 31 = 99 := rfl
theorem a_len_31 (S : aS) : a_len S 31 = 6 := rfl
theorem a_get_31 (S : aS) (i : Nat) : a_get S 31 i = S 31 i := rfl
theorem a_cls_32 : a_cls 32 = 99 := rfl
theorem a_len_32 (S : aS) : a_len S 32 = 6 := rfl
theorem a_get_32 (S : aS) (i : Nat) : a_get S 32 i = S 32 i := rfl
theorem a_cls_33 : a_cls 33 = 99 := rfl
theorem a_len_33 (S : aS) : a_len S 33 = 32 := rfl
theorem a_get_33 (S : aS) (i : Nat) : a_get S 33 i = S 33 i := rfl
theorem a_cls_34 : a_cls 34 = 6 := rfl
theorem a_rf_34_1 : a_rf 34 1 = 35 := rfl
theorem a_rf_34_3 : a_rf 34 3 = 36 := rfl
theorem a_rf_34_4 : a_rf 34 4 = 37 := rfl
theorem a_rf_34_5 : a_rf 34 5 = 38 := rfl
theorem a_rf_34_6 : a_rf 34 6 = 39 := rfl
theorem a_rf_34_8 : a_rf 34 8 = 40 := rfl
theorem a_rf_34_9 : a_rf 34 9 = 41 := rfl
theorem a_rf_34_11 : a_rf 34 11 = 42 := rfl
theorem a_rf_34_12 : a_rf 34 12 = 43 := rfl
theorem a_rf_34_21 : a_rf 34 21 = 44 := rfl
theorem a_cls_35 : a_cls 35 = 99 := rfl
theorem a_len_35 (S : aS) : a_len S 35 = 56 := rfl
theorem a_get_35 (S : aS) (i : Nat) : a_get S 35 i = S 35 i := rfl
theorem a_cls_36 : a_cls 36 = 99 := rfl
theorem a_len_36 (S : aS) : a_len S 36 = 67 := rfl
theorem a_get_36 (S : aS) (i : Nat) : a_get S 36 i = S 36 i := rfl
theorem a_cls_37 : a_cls 37 = 99 := rfl
theorem a_len_37 (S : aS) : a_len S 37 = 67 := rfl
theorem a_get_37 (S : aS) (i : Nat) : a_get S 37 i = S 37 i := rfl
theorem a_cls_38 : a_cls 38 = 99 := rfl
theorem a_len_38 (S : aS) : a_len S 38 = 67 := rfl
theorem a_get_38 (S : aS) (i : Nat) : a_get S 38 i = S 38 i := rfl
theorem a_cls_39 : a_cls 39 = 99 := rfl
theorem a_len_39 (S : aS) : a_len S 39 = 938 := rfl
theorem a_get_39 (S : aS) (i : Nat) : a_get S 39 i = S 39 i := rfl
theorem a_cls_40 : a_cls 40 = 99 := rfl
theorem a_len_40 (S : aS) : a_len S 40 = 134 := rfl
theorem a_get_40 (S : aS) (i : Nat) : a_get S 40 i = S 40 i := rfl
theorem a_cls_41 : a_cls 41 = 99 := rfl
theorem a_cls_42 : a_cls 42 = 99 := rfl
theorem a_len_42 (S : aS) : a_len S 42 = 6 := rfl
theorem a_get_42 (S : aS) (i : Nat) : a_get S 42 i = S 42 i := rfl
theorem a_cls_43 : a_cls 43 = 99 := rfl
theorem a_len_43 (S : aS) : a_len S 43 = 6 := rfl
theorem a_get_43 (S : aS) (i : Nat) : a_get S 43 i = S 43 i := rfl
theorem a_cls_44 : a_cls 44 = 99 := rfl
theorem a_len_44 (S : aS) : a_len S 44 = 32 := rfl
theorem a_get_44 (S : aS) (i : Nat) : a_get S 44 i = S 44 i := rfl
theorem a_len_1000 (S : aS) : a_len S 1000 = (S 1001 0).toNatClampNeg := rfl
theorem a_get_1000 (S : aS) (i : Nat) : a_get S 1000 i = S 1000 i := rfl
theorem a_len_1002 (S : aS) : a_len S 1002 = 6 := rfl
theorem a_get_1002 (S : aS) (i : Nat) : a_get S 1002 i = a_fact i := rfl
theorem fr_0_9 : a_fr 0 9 = some (0, 0) := by decide +kernel
theorem fr_0_15 : a_fr 0 15 = some (0, 1) := by decide +kernel
theorem fr_0_18 : a_fr 0 18 = some (0, 2) := by decide +kernel
theorem fr_0_21 : a_fr 0 21 = some (0, 3) := by decide +kernel
theorem fr_0_24 : a_fr 0 24 = some (0, 4) := by decide +kernel
theorem fr_1_9 : a_fr 1 9 = some (1, 0) := by decide +kernel
theorem fr_1_15 : a_fr 1 15 = some (1, 1) := by decide +kernel
theorem fr_1_18 : a_fr 1 18 = some (1, 2) := by decide +kernel
theorem fr_1_21 : a_fr 1 21 = some (1, 3) := by decide +kernel
theorem fr_1_24 : a_fr 1 24 = some (1, 4) := by decide +kernel
theorem fr_1_27 : a_fr 1 27 = some (1, 5) := by decide +kernel
theorem fr_1_31 : a_fr 1 31 = some (1, 6) := by decide +kernel
theorem fr_1_34 : a_fr 1 34 = some (3, 6) := by decide +kernel
theorem fr_1_43 : a_fr 1 43 = some (3, 7) := by decide +kernel
theorem fr_1_67 : a_fr 1 67 = some (3, 5) := by decide +kernel
theorem fr_1_85 : a_fr 1 85 = some (3, 3) := by decide +kernel
theorem fr_1_91 : a_fr 1 91 = some (3, 4) := by decide +kernel
theorem fr_2_9 : a_fr 2 9 = some (2, 0) := by decide +kernel
theorem fr_2_15 : a_fr 2 15 = some (2, 1) := by decide +kernel
theorem fr_2_18 : a_fr 2 18 = some (2, 2) := by decide +kernel
theorem fr_3_9 : a_fr 3 9 = some (3, 0) := by decide +kernel
theorem fr_3_15 : a_fr 3 15 = some (3, 1) := by decide +kernel
theorem fr_3_18 : a_fr 3 18 = some (3, 2) := by decide +kernel
theorem fr_3_21 : a_fr 3 21 = some (3, 3) := by decide +kernel
theorem fr_3_25 : a_fr 3 25 = some (3, 4) := by decide +kernel
theorem fr_3_28 : a_fr 3 28 = some (3, 5) := by decide +kernel
theorem fr_3_31 : a_fr 3 31 = some (3, 6) := by decide +kernel
theorem fr_3_34 : a_fr 3 34 = some (3, 7) := by decide +kernel
theorem fr_3_37 : a_fr 3 37 = some (3, 8) := by decide +kernel
theorem fr_3_40 : a_fr 3 40 = some (3, 9) := by decide +kernel
theorem fr_4_9 : a_fr 4 9 = some (4, 0) := by decide +kernel
theorem fr_4_15 : a_fr 4 15 = some (4, 1) := by decide +kernel
theorem fr_5_10 : a_fr 5 10 = some (5, 0) := by decide +kernel
theorem fr_5_19 : a_fr 5 19 = some (5, 1) := by decide +kernel
theorem fr_5_23 : a_fr 5 23 = some (5, 2) := by decide +kernel
theorem fr_5_26 : a_fr 5 26 = some (5, 3) := by decide +kernel
theorem fr_5_29 : a_fr 5 29 = some (5, 4) := by decide +kernel
theorem fr_5_35 : a_fr 5 35 = some (5, 5) := by decide +kernel
theorem fr_5_42 : a_fr 5 42 = some (5, 6) := by decide +kernel
theorem fr_5_49 : a_fr 5 49 = some (5, 7) := by decide +kernel
theorem fr_5_53 : a_fr 5 53 = some (5, 8) := by decide +kernel
theorem fr_5_57 : a_fr 5 57 = some (5, 9) := by decide +kernel
theorem fr_5_61 : a_fr 5 61 = some (5, 10) := by decide +kernel
theorem fr_5_90 : a_fr 5 90 = some (3, 3) := by decide +kernel
theorem fr_5_93 : a_fr 5 93 = some (3, 4) := by decide +kernel
theorem fr_5_103 : a_fr 5 103 = some (3, 5) := by decide +kernel
theorem fr_5_106 : a_fr 5 106 = some (3, 6) := by decide +kernel
theorem fr_5_109 : a_fr 5 109 = some (3, 7) := by decide +kernel
theorem fr_5_112 : a_fr 5 112 = some (3, 8) := by decide +kernel
theorem fr_5_115 : a_fr 5 115 = some (3, 9) := by decide +kernel
theorem fr_6_7 : a_fr 6 7 = some (6, 1) := by decide +kernel
theorem fr_6_13 : a_fr 6 13 = some (6, 3) := by decide +kernel
theorem fr_6_16 : a_fr 6 16 = some (6, 4) := by decide +kernel
theorem fr_6_19 : a_fr 6 19 = some (6, 5) := by decide +kernel
theorem fr_6_22 : a_fr 6 22 = some (6, 6) := by decide +kernel
theorem fr_6_25 : a_fr 6 25 = some (6, 8) := by decide +kernel
theorem fr_6_28 : a_fr 6 28 = some (6, 9) := by decide +kernel
theorem fr_6_32 : a_fr 6 32 = some (6, 11) := by decide +kernel
theorem fr_6_35 : a_fr 6 35 = some (6, 12) := by decide +kernel
theorem fr_6_38 : a_fr 6 38 = some (6, 21) := by decide +kernel
theorem fr_6_45 : a_fr 6 45 = some (6, 0) := by decide +kernel
theorem fr_6_63 : a_fr 6 63 = some (6, 2) := by decide +kernel
theorem fr_6_78 : a_fr 6 78 = some (6, 7) := by decide +kernel
theorem fr_6_81 : a_fr 6 81 = some (6, 14) := by decide +kernel
theorem fr_6_84 : a_fr 6 84 = some (6, 15) := by decide +kernel
theorem fr_6_87 : a_fr 6 87 = some (6, 16) := by decide +kernel
theorem fr_6_115 : a_fr 6 115 = some (6, 10) := by decide +kernel
theorem fr_6_169 : a_fr 6 169 = some (6, 17) := by decide +kernel
theorem fr_6_172 : a_fr 6 172 = some (6, 18) := by decide +kernel
theorem fr_6_222 : a_fr 6 222 = some (6, 19) := by decide +kernel
theorem fr_6_225 : a_fr 6 225 = some (6, 20) := by decide +kernel
theorem fr_6_233 : a_fr 6 233 = some (6, 13) := by decide +kernel
theorem kl_5_246 : a_kl 5 246 = some (100000) := by decide +kernel
theorem kl_5_279 : a_kl 5 279 = some (6364136223846793005) := by decide +kernel
theorem kl_5_281 : a_kl 5 281 = some (1442695040888963407) := by decide +kernel
theorem kl_6_61 : a_kl 6 61 = some (255) := by decide +kernel
theorem kl_6_66 : a_kl 6 66 = some (9) := by decide +kernel
theorem kl_6_72 : a_kl 6 72 = some (5) := by decide +kernel
theorem kl_6_130 : a_kl 6 130 = some (25) := by decide +kernel
theorem kl_6_145 : a_kl 6 145 = some (-9) := by decide +kernel
theorem kl_6_154 : a_kl 6 154 = some (2) := by decide +kernel
theorem kl_6_164 : a_kl 6 164 = some (-1) := by decide +kernel
theorem kl_6_205 : a_kl 6 205 = some (3) := by decide +kernel
theorem kl_6_207 : a_kl 6 207 = some (100000) := by decide +kernel
theorem kl_6_228 : a_kl 6 228 = some (10) := by decide +kernel
theorem kl_6_237 : a_kl 6 237 = some (20) := by decide +kernel
theorem kl_6_239 : a_kl 6 239 = some (6364136223846793005) := by decide +kernel
theorem kl_6_241 : a_kl 6 241 = some (1442695040888963407) := by decide +kernel
theorem kl_9_98 : a_kl 9 98 = some (4294967295) := by decide +kernel
theorem ki_7_265 : a_ki 7 265 = some (1431655765) := by decide +kernel
theorem ki_7_266 : a_ki 7 266 = some (858993459) := by decide +kernel
theorem ki_7_267 : a_ki 7 267 = some (252645135) := by decide +kernel
theorem gs_5_238 : a_gs 5 238 = some 1003 := by decide +kernel
theorem gs_5_322 : a_gs 5 322 = some 1002 := by decide +kernel
theorem ac_0_31 : a_ac 0 31 = some () := by decide +kernel
theorem ac_3_67 : a_ac 3 67 = some () := by decide +kernel
theorem mh_1_80 : a_ac 1 80 = none ∧ a_mh 1 80 = some 0 := by decide +kernel
theorem mh_1_88 : a_ac 1 88 = none ∧ a_mh 1 88 = some 1 := by decide +kernel
theorem mh_3_91 : a_ac 3 91 = none ∧ a_mh 3 91 = some 1 := by decide +kernel
theorem mh_4_35 : a_ac 4 35 = none ∧ a_mh 4 35 = some 1 := by decide +kernel
theorem mh_4_41 : a_ac 4 41 = none ∧ a_mh 4 41 = some 0 := by decide +kernel
theorem mh_5_314 : a_ac 5 314 = none ∧ a_mh 5 314 = some 2 := by decide +kernel
set_option maxRecDepth 100000 in
theorem cr_0_28 : a_cr 0 28 = some (1, 0, mX0_forgetFirst) := rfl
set_option maxRecDepth 100000 in
theorem cr_0_37 : a_cr 0 37 = some (1, 4, mX0_takeBack) := rfl
set_option maxRecDepth 100000 in
theorem cr_0_41 : a_cr 0 41 = some (1, 3, mX3_setGrey) := rfl
set_option maxRecDepth 100000 in
theorem cr_0_47 : a_cr 0 47 = some (1, 1, mX3_lighten) := rfl
set_option maxRecDepth 100000 in
theorem cr_0_51 : a_cr 0 51 = some (1, 3, mX3_setRule) := rfl
set_option maxRecDepth 100000 in
theorem cr_0_54 : a_cr 0 54 = some (1, 2, mX3_setShown) := rfl
set_option maxRecDepth 100000 in
theorem cr_0_58 : a_cr 0 58 = some (1, 2, mX3_setLie) := rfl
set_option maxRecDepth 100000 in
theorem cr_1_39 : a_cr 1 39 = some (1, 2, mX1_look) := rfl
set_option maxRecDepth 100000 in
theorem cr_1_46 : a_cr 1 46 = some (1, 2, mX1_dotsMarked) := rfl
set_option maxRecDepth 100000 in
theorem cr_1_50 : a_cr 1 50 = some (0, 1, mJ6_bitCount_0f7a4) := rfl
theorem no_1_50 : a_ac 1 50 = none ∧ a_mh 1 50 = none := by decide +kernel
set_option maxRecDepth 100000 in
theorem cr_1_56 : a_cr 1 56 = some (1, 0, mX3_dots) := rfl
set_option maxRecDepth 100000 in
theorem cr_1_59 : a_cr 1 59 = some (1, 3, mX1_lookAt) := rfl
set_option maxRecDepth 100000 in
theorem cr_1_63 : a_cr 1 63 = some (1, 1, mX3_has) := rfl
set_option maxRecDepth 100000 in
theorem cr_1_68 : a_cr 1 68 = some (1, 2, mX3_greyOf) := rfl
set_option maxRecDepth 100000 in
theorem cr_1_71 : a_cr 1 71 = some (1, 1, mX3_greyAlone) := rfl
set_option maxRecDepth 100000 in
theorem cr_1_74 : a_cr 1 74 = some (1, 1, mX3_columnOf) := rfl
set_option maxRecDepth 100000 in
theorem cr_1_77 : a_cr 1 77 = some (1, 1, mX3_rowOf) := rfl
set_option maxRecDepth 100000 in
theorem cr_1_94 : a_cr 1 94 = some (0, 1, mX1_isPlace) := rfl
theorem no_1_94 : a_ac 1 94 = none ∧ a_mh 1 94 = none := by decide +kernel
set_option maxRecDepth 100000 in
theorem cr_1_97 : a_cr 1 97 = some (1, 2, mX1_markOf) := rfl
set_option maxRecDepth 100000 in
theorem cr_1_100 : a_cr 1 100 = some (1, 3, mX1_isDark) := rfl
set_option maxRecDepth 100000 in
theorem cr_2_22 : a_cr 2 22 = some (1, 0, mX2_isFull) := rfl
set_option maxRecDepth 100000 in
theorem cr_3_43 : a_cr 3 43 = some (1, 1, mX4_figureAt) := rfl
set_option maxRecDepth 100000 in
theorem cr_3_49 : a_cr 3 49 = some (1, 0, mX3_dots) := rfl
set_option maxRecDepth 100000 in
theorem cr_3_53 : a_cr 3 53 = some (1, 3, mX3_setGrey) := rfl
set_option maxRecDepth 100000 in
theorem cr_3_57 : a_cr 3 57 = some (1, 2, mX3_setShown) := rfl
set_option maxRecDepth 100000 in
theorem cr_3_61 : a_cr 3 61 = some (1, 3, mX3_setRule) := rfl
set_option maxRecDepth 100000 in
theorem cr_3_64 : a_cr 3 64 = some (1, 2, mX3_setLie) := rfl
set_option maxRecDepth 100000 in
theorem cr_3_73 : a_cr 3 73 = some (1, 1, mX3_has) := rfl
set_option maxRecDepth 100000 in
theorem cr_3_80 : a_cr 3 80 = some (1, 2, mX3_greyOf) := rfl
set_option maxRecDepth 100000 in
theorem cr_3_84 : a_cr 3 84 = some (1, 3, mX3_lyingUnder) := rfl
set_option maxRecDepth 100000 in
theorem cr_3_88 : a_cr 3 88 = some (1, 1, mX3_shownFor) := rfl
set_option maxRecDepth 100000 in
theorem cr_3_96 : a_cr 3 96 = some (1, 1, mX3_withNeighbours) := rfl
set_option maxRecDepth 100000 in
theorem cr_4_19 : a_cr 4 19 = some (1, 0, mX4_isFull) := rfl
set_option maxRecDepth 100000 in
theorem cr_4_23 : a_cr 4 23 = some (1, 1, mX4_fits) := rfl
set_option maxRecDepth 100000 in
theorem cr_4_27 : a_cr 4 27 = some (1, 0, mX4_dotsTold) := rfl
set_option maxRecDepth 100000 in
theorem cr_4_31 : a_cr 4 31 = some (1, 1, mX4_letterAt) := rfl
set_option maxRecDepth 100000 in
theorem cr_4_44 : a_cr 4 44 = some (1, 1, mX4_figureAt) := rfl
set_option maxRecDepth 100000 in
theorem cr_5_65 : a_cr 5 65 = some (1, 0, mX4_isFull) := rfl
set_option maxRecDepth 100000 in
theorem cr_5_69 : a_cr 5 69 = some (1, 1, mX4_append) := rfl
set_option maxRecDepth 100000 in
theorem cr_5_73 : a_cr 5 73 = some (1, 0, mX4_clear) := rfl
set_option maxRecDepth 100000 in
theorem cr_5_77 : a_cr 5 77 = some (1, 0, mX4_firstFault) := rfl
set_option maxRecDepth 100000 in
theorem cr_5_80 : a_cr 5 80 = some (1, 1, mX3_becomeText) := rfl
set_option maxRecDepth 100000 in
theorem cr_5_84 : a_cr 5 84 = some (1, 0, mX0_forgetAll) := rfl
set_option maxRecDepth 100000 in
theorem cr_5_87 : a_cr 5 87 = some (1, 0, mX3_dots) := rfl
set_option maxRecDepth 100000 in
theorem cr_5_96 : a_cr 5 96 = some (1, 2, mX1_howMany) := rfl
set_option maxRecDepth 100000 in
theorem cr_5_100 : a_cr 5 100 = some (1, 0, mX3_greysTogether) := rfl
set_option maxRecDepth 100000 in
theorem cr_5_118 : a_cr 5 118 = some (0, 2, mX5_lieNumber) := rfl
theorem no_5_118 : a_ac 5 118 = none ∧ a_mh 5 118 = none := by decide +kernel
set_option maxRecDepth 100000 in
theorem cr_5_122 : a_cr 5 122 = some (1, 0, mX0_size) := rfl
set_option maxRecDepth 100000 in
theorem cr_5_125 : a_cr 5 125 = some (1, 0, mX2_size) := rfl
set_option maxRecDepth 100000 in
theorem cr_5_126 : a_cr 5 126 = some (1, 0, mX4_size) := rfl
set_option maxRecDepth 100000 in
theorem cr_5_127 : a_cr 5 127 = some (0, 1, mX5_isSide) := rfl
theorem no_5_127 : a_ac 5 127 = none ∧ a_mh 5 127 = none := by decide +kernel
set_option maxRecDepth 100000 in
theorem cr_5_131 : a_cr 5 131 = some (1, 1, mX3_has) := rfl
set_option maxRecDepth 100000 in
theorem cr_5_134 : a_cr 5 134 = some (1, 2, mX3_greyOf) := rfl
set_option maxRecDepth 100000 in
theorem cr_5_137 : a_cr 5 137 = some (0, 1, mX5_isFigure) := rfl
theorem no_5_137 : a_ac 5 137 = none ∧ a_mh 5 137 = none := by decide +kernel
set_option maxRecDepth 100000 in
theorem cr_5_140 : a_cr 5 140 = some (1, 1, mX3_shownFor) := rfl
set_option maxRecDepth 100000 in
theorem cr_5_143 : a_cr 5 143 = some (1, 3, mX1_lookAt) := rfl
set_option maxRecDepth 100000 in
theorem cr_5_147 : a_cr 5 147 = some (1, 1, mX1_countOf) := rfl
set_option maxRecDepth 100000 in
theorem cr_5_150 : a_cr 5 150 = some (1, 1, mX1_sumOf) := rfl
set_option maxRecDepth 100000 in
theorem cr_5_153 : a_cr 5 153 = some (1, 1, mX1_squaresOf) := rfl
set_option maxRecDepth 100000 in
theorem cr_5_156 : a_cr 5 156 = some (0, 3, mX5_fraction) := rfl
theorem no_5_156 : a_ac 5 156 = none ∧ a_mh 5 156 = none := by decide +kernel
set_option maxRecDepth 100000 in
theorem cr_5_160 : a_cr 5 160 = some (1, 1, mX1_unevenness) := rfl
set_option maxRecDepth 100000 in
theorem cr_5_163 : a_cr 5 163 = some (1, 2, mX1_markOf) := rfl
set_option maxRecDepth 100000 in
theorem cr_5_166 : a_cr 5 166 = some (1, 3, mX3_lyingUnder) := rfl
set_option maxRecDepth 100000 in
theorem cr_5_170 : a_cr 5 170 = some (1, 2, mX1_look) := rfl
set_option maxRecDepth 100000 in
theorem cr_5_174 : a_cr 5 174 = some (1, 2, mX1_dotsMarked) := rfl
set_option maxRecDepth 100000 in
theorem cr_5_177 : a_cr 5 177 = some (1, 2, mX3_hangingTogether) := rfl
set_option maxRecDepth 100000 in
theorem cr_5_180 : a_cr 5 180 = some (0, 1, mJ6_bitCount_0f7a4) := rfl
theorem no_5_180 : a_ac 5 180 = none ∧ a_mh 5 180 = none := by decide +kernel
set_option maxRecDepth 100000 in
theorem cr_5_185 : a_cr 5 185 = some (1, 4, mX0_add) := rfl
set_option maxRecDepth 100000 in
theorem cr_5_189 : a_cr 5 189 = some (1, 3, mX3_setGrey) := rfl
set_option maxRecDepth 100000 in
theorem cr_5_193 : a_cr 5 193 = some (0, 1, mX5_isLight) := rfl
theorem no_5_193 : a_ac 5 193 = none ∧ a_mh 5 193 = none := by decide +kernel
set_option maxRecDepth 100000 in
theorem cr_5_196 : a_cr 5 196 = some (1, 1, mX3_staysGrey) := rfl
set_option maxRecDepth 100000 in
theorem cr_5_199 : a_cr 5 199 = some (1, 1, mX3_lighten) := rfl
set_option maxRecDepth 100000 in
theorem cr_5_203 : a_cr 5 203 = some (0, 3, mX5_isRule) := rfl
theorem no_5_203 : a_ac 5 203 = none ∧ a_mh 5 203 = none := by decide +kernel
set_option maxRecDepth 100000 in
theorem cr_5_207 : a_cr 5 207 = some (1, 3, mX3_setRule) := rfl
set_option maxRecDepth 100000 in
theorem cr_5_210 : a_cr 5 210 = some (1, 2, mX3_setShown) := rfl
set_option maxRecDepth 100000 in
theorem cr_5_214 : a_cr 5 214 = some (0, 2, mX5_isLie) := rfl
theorem no_5_214 : a_ac 5 214 = none ∧ a_mh 5 214 = none := by decide +kernel
set_option maxRecDepth 100000 in
theorem cr_5_218 : a_cr 5 218 = some (1, 2, mX3_setLie) := rfl
set_option maxRecDepth 100000 in
theorem cr_5_221 : a_cr 5 221 = some (1, 1, mX0_takeBackLast) := rfl
set_option maxRecDepth 100000 in
theorem cr_5_225 : a_cr 5 225 = some (1, 2, mX3_pairs) := rfl
set_option maxRecDepth 100000 in
theorem cr_5_228 : a_cr 5 228 = some (1, 2, mX3_difference) := rfl
set_option maxRecDepth 100000 in
theorem cr_5_231 : a_cr 5 231 = some (1, 0, mX5_bestLie) := rfl
set_option maxRecDepth 100000 in
theorem cr_5_234 : a_cr 5 234 = some (1, 1, mX5_bestWindow) := rfl
set_option maxRecDepth 100000 in
theorem cr_5_242 : a_cr 5 242 = some (1, 1, mX3_copyFrom) := rfl
set_option maxRecDepth 100000 in
theorem cr_5_248 : a_cr 5 248 = some (1, 1, mX5_canBe) := rfl
set_option maxRecDepth 100000 in
theorem cr_5_251 : a_cr 5 251 = some (1, 1, mX3_hasRow) := rfl
set_option maxRecDepth 100000 in
theorem cr_5_254 : a_cr 5 254 = some (1, 1, mX5_inkWhenCome) := rfl
set_option maxRecDepth 100000 in
theorem cr_5_257 : a_cr 5 257 = some (0, 2, mX5_ordersWith) := rfl
theorem no_5_257 : a_ac 5 257 = none ∧ a_mh 5 257 = none := by decide +kernel
set_option maxRecDepth 100000 in
theorem cr_5_260 : a_cr 5 260 = some (0, 1, mX5_factorial) := rfl
theorem no_5_260 : a_ac 5 260 = none ∧ a_mh 5 260 = none := by decide +kernel
set_option maxRecDepth 100000 in
theorem cr_5_263 : a_cr 5 263 = some (1, 0, mX2_isFull) := rfl
set_option maxRecDepth 100000 in
theorem cr_5_264 : a_cr 5 264 = some (1, 2, mX2_add) := rfl
set_option maxRecDepth 100000 in
theorem cr_5_266 : a_cr 5 266 = some (1, 0, mX2_clear) := rfl
set_option maxRecDepth 100000 in
theorem cr_5_267 : a_cr 5 267 = some (1, 1, mX2_agreesWith) := rfl
set_option maxRecDepth 100000 in
theorem cr_5_270 : a_cr 5 270 = some (0, 2, mX5_windowNumber) := rfl
theorem no_5_270 : a_ac 5 270 = none ∧ a_mh 5 270 = none := by decide +kernel
set_option maxRecDepth 100000 in
theorem cr_5_273 : a_cr 5 273 = some (1, 2, mX5_inkWhenBleached) := rfl
set_option maxRecDepth 100000 in
theorem cr_5_276 : a_cr 5 276 = some (0, 2, mX5_power) := rfl
theorem no_5_276 : a_ac 5 276 = none ∧ a_mh 5 276 = none := by decide +kernel
set_option maxRecDepth 100000 in
theorem cr_5_283 : a_cr 5 283 = some (0, 2, mX5_remainder) := rfl
theorem no_5_283 : a_ac 5 283 = none ∧ a_mh 5 283 = none := by decide +kernel
set_option maxRecDepth 100000 in
theorem cr_5_286 : a_cr 5 286 = some (0, 1, mX5_isSlot) := rfl
theorem no_5_286 : a_ac 5 286 = none ∧ a_mh 5 286 = none := by decide +kernel
set_option maxRecDepth 100000 in
theorem cr_5_289 : a_cr 5 289 = some (1, 1, mX5_slotAt) := rfl
set_option maxRecDepth 100000 in
theorem cr_5_293 : a_cr 5 293 = some (1, 2, mX3_whiten) := rfl
set_option maxRecDepth 100000 in
theorem cr_5_296 : a_cr 5 296 = some (1, 3, mX5_canPaint) := rfl
set_option maxRecDepth 100000 in
theorem cr_5_299 : a_cr 5 299 = some (1, 1, mX5_canLighten) := rfl
set_option maxRecDepth 100000 in
theorem cr_5_302 : a_cr 5 302 = some (1, 3, mX5_canRule) := rfl
set_option maxRecDepth 100000 in
theorem cr_5_305 : a_cr 5 305 = some (1, 2, mX5_canTable) := rfl
set_option maxRecDepth 100000 in
theorem cr_5_308 : a_cr 5 308 = some (1, 2, mX5_canLay) := rfl
set_option maxRecDepth 100000 in
theorem cr_5_311 : a_cr 5 311 = some (1, 2, mX5_isSoMarked) := rfl
set_option maxRecDepth 100000 in
theorem cr_5_319 : a_cr 5 319 = some (0, 2, mX5_commonDivisor) := rfl
theorem no_5_319 : a_ac 5 319 = none ∧ a_mh 5 319 = none := by decide +kernel
set_option maxRecDepth 100000 in
theorem cr_6_41 : a_cr 6 41 = some (0, 1, mX6_openRule) := rfl
theorem no_6_41 : a_ac 6 41 = none ∧ a_mh 6 41 = none := by decide +kernel
set_option maxRecDepth 100000 in
theorem cr_6_49 : a_cr 6 49 = some (0, 2, mX6_divisor) := rfl
theorem no_6_49 : a_ac 6 49 = none ∧ a_mh 6 49 = none := by decide +kernel
set_option maxRecDepth 100000 in
theorem cr_6_53 : a_cr 6 53 = some (0, 1, mX6_dotsOf) := rfl
theorem no_6_53 : a_ac 6 53 = none ∧ a_mh 6 53 = none := by decide +kernel
set_option maxRecDepth 100000 in
theorem cr_6_57 : a_cr 6 57 = some (0, 3, mX6_in) := rfl
theorem no_6_57 : a_ac 6 57 = none ∧ a_mh 6 57 = none := by decide +kernel
set_option maxRecDepth 100000 in
theorem cr_6_68 : a_cr 6 68 = some (1, 1, mX6_figureAt) := rfl
set_option maxRecDepth 100000 in
theorem cr_6_74 : a_cr 6 74 = some (1, 0, mX6_readLeaf) := rfl
set_option maxRecDepth 100000 in
theorem cr_6_90 : a_cr 6 90 = some (0, 2, mX6_far) := rfl
theorem no_6_90 : a_ac 6 90 = none ∧ a_mh 6 90 = none := by decide +kernel
set_option maxRecDepth 100000 in
theorem cr_6_93 : a_cr 6 93 = some (1, 3, mX6_layWindow) := rfl
set_option maxRecDepth 100000 in
theorem cr_6_97 : a_cr 6 97 = some (1, 2, mX6_isDark) := rfl
set_option maxRecDepth 100000 in
theorem cr_6_101 : a_cr 6 101 = some (0, 4, mX6_underOf) := rfl
theorem no_6_101 : a_ac 6 101 = none ∧ a_mh 6 101 = none := by decide +kernel
set_option maxRecDepth 100000 in
theorem cr_6_105 : a_cr 6 105 = some (1, 2, mX6_markOf) := rfl
set_option maxRecDepth 100000 in
theorem cr_6_109 : a_cr 6 109 = some (1, 2, mX6_marks) := rfl
set_option maxRecDepth 100000 in
theorem cr_6_112 : a_cr 6 112 = some (0, 1, mX6_greys) := rfl
theorem no_6_112 : a_ac 6 112 = none ∧ a_mh 6 112 = none := by decide +kernel
set_option maxRecDepth 100000 in
theorem cr_6_118 : a_cr 6 118 = some (1, 1, mX6_noDot) := rfl
set_option maxRecDepth 100000 in
theorem cr_6_122 : a_cr 6 122 = some (0, 3, mX6_fraction) := rfl
theorem no_6_122 : a_ac 6 122 = none ∧ a_mh 6 122 = none := by decide +kernel
set_option maxRecDepth 100000 in
theorem cr_6_126 : a_cr 6 126 = some (0, 2, mX6_has) := rfl
theorem no_6_126 : a_ac 6 126 = none ∧ a_mh 6 126 = none := by decide +kernel
set_option maxRecDepth 100000 in
theorem cr_6_132 : a_cr 6 132 = some (1, 1, mX6_inkOf) := rfl
set_option maxRecDepth 100000 in
theorem cr_6_135 : a_cr 6 135 = some (0, 3, mX6_hanging) := rfl
theorem no_6_135 : a_ac 6 135 = none ∧ a_mh 6 135 = none := by decide +kernel
set_option maxRecDepth 100000 in
theorem cr_6_139 : a_cr 6 139 = some (0, 1, mX6_many) := rfl
theorem no_6_139 : a_ac 6 139 = none ∧ a_mh 6 139 = none := by decide +kernel
set_option maxRecDepth 100000 in
theorem cr_6_142 : a_cr 6 142 = some (1, 0, mX6_note) := rfl
set_option maxRecDepth 100000 in
theorem cr_6_147 : a_cr 6 147 = some (0, 2, mX6_canLight) := rfl
theorem no_6_147 : a_ac 6 147 = none ∧ a_mh 6 147 = none := by decide +kernel
set_option maxRecDepth 100000 in
theorem cr_6_150 : a_cr 6 150 = some (0, 2, mX6_goLight) := rfl
theorem no_6_150 : a_ac 6 150 = none ∧ a_mh 6 150 = none := by decide +kernel
set_option maxRecDepth 100000 in
theorem cr_6_156 : a_cr 6 156 = some (0, 3, mX6_isRule) := rfl
theorem no_6_156 : a_ac 6 156 = none ∧ a_mh 6 156 = none := by decide +kernel
set_option maxRecDepth 100000 in
theorem cr_6_160 : a_cr 6 160 = some (0, 4, mX6_goRule) := rfl
theorem no_6_160 : a_ac 6 160 = none ∧ a_mh 6 160 = none := by decide +kernel
set_option maxRecDepth 100000 in
theorem cr_6_166 : a_cr 6 166 = some (0, 2, mX6_isLie) := rfl
theorem no_6_166 : a_ac 6 166 = none ∧ a_mh 6 166 = none := by decide +kernel
set_option maxRecDepth 100000 in
theorem cr_6_175 : a_cr 6 175 = some (1, 2, mX6_layFit) := rfl
set_option maxRecDepth 100000 in
theorem cr_6_179 : a_cr 6 179 = some (1, 0, mX6_begin) := rfl
set_option maxRecDepth 100000 in
theorem cr_6_182 : a_cr 6 182 = some (1, 1, mX6_inkBy) := rfl
set_option maxRecDepth 100000 in
theorem cr_6_185 : a_cr 6 185 = some (1, 0, mX6_bestLie) := rfl
set_option maxRecDepth 100000 in
theorem cr_6_188 : a_cr 6 188 = some (1, 1, mX6_bestRule) := rfl
set_option maxRecDepth 100000 in
theorem cr_6_192 : a_cr 6 192 = some (1, 3, mX6_puts) := rfl
set_option maxRecDepth 100000 in
theorem cr_6_196 : a_cr 6 196 = some (1, 1, mX6_lights) := rfl
set_option maxRecDepth 100000 in
theorem cr_6_199 : a_cr 6 199 = some (1, 3, mX6_rules) := rfl
set_option maxRecDepth 100000 in
theorem cr_6_202 : a_cr 6 202 = some (1, 2, mX6_lies) := rfl
set_option maxRecDepth 100000 in
theorem cr_6_209 : a_cr 6 209 = some (0, 2, mX6_longPower) := rfl
theorem no_6_209 : a_ac 6 209 = none ∧ a_mh 6 209 = none := by decide +kernel
set_option maxRecDepth 100000 in
theorem cr_6_213 : a_cr 6 213 = some (1, 1, mX6_does) := rfl
set_option maxRecDepth 100000 in
theorem cr_6_216 : a_cr 6 216 = some (1, 1, mX6_inkOfRows) := rfl
set_option maxRecDepth 100000 in
theorem cr_6_219 : a_cr 6 219 = some (0, 2, mX6_orders) := rfl
theorem no_6_219 : a_ac 6 219 = none ∧ a_mh 6 219 = none := by decide +kernel
set_option maxRecDepth 100000 in
theorem cr_6_230 : a_cr 6 230 = some (0, 2, mX6_power) := rfl
theorem no_6_230 : a_ac 6 230 = none ∧ a_mh 6 230 = none := by decide +kernel
set_option maxRecDepth 100000 in
theorem cr_9_13 : a_cr 9 13 = some (1, 1, mX5_write) := rfl
set_option maxRecDepth 100000 in
theorem cr_9_17 : a_cr 9 17 = some (1, 1, mX6_write) := rfl
set_option maxRecDepth 100000 in
theorem cr_9_18 : a_cr 9 18 = some (1, 0, mX5_wipe) := rfl
set_option maxRecDepth 100000 in
theorem cr_9_22 : a_cr 9 22 = some (1, 0, mX6_wipe) := rfl
set_option maxRecDepth 100000 in
theorem cr_9_23 : a_cr 9 23 = some (1, 0, mX5_fault) := rfl
set_option maxRecDepth 100000 in
theorem cr_9_26 : a_cr 9 26 = some (1, 0, mX6_fault) := rfl
set_option maxRecDepth 100000 in
theorem cr_9_27 : a_cr 9 27 = some (1, 0, mX5_leaf) := rfl
set_option maxRecDepth 100000 in
theorem cr_9_30 : a_cr 9 30 = some (1, 0, mX6_leaf) := rfl
set_option maxRecDepth 100000 in
theorem cr_9_31 : a_cr 9 31 = some (1, 1, mX5_about) := rfl
set_option maxRecDepth 100000 in
theorem cr_9_34 : a_cr 9 34 = some (1, 1, mX6_about) := rfl
set_option maxRecDepth 100000 in
theorem cr_9_35 : a_cr 9 35 = some (1, 2, mX5_grey) := rfl
set_option maxRecDepth 100000 in
theorem cr_9_39 : a_cr 9 39 = some (1, 2, mX6_grey) := rfl
set_option maxRecDepth 100000 in
theorem cr_9_40 : a_cr 9 40 = some (1, 1, mX5_shows) := rfl
set_option maxRecDepth 100000 in
theorem cr_9_43 : a_cr 9 43 = some (1, 1, mX6_shows) := rfl
set_option maxRecDepth 100000 in
theorem cr_9_44 : a_cr 9 44 = some (1, 2, mX5_window) := rfl
set_option maxRecDepth 100000 in
theorem cr_9_47 : a_cr 9 47 = some (1, 2, mX6_window) := rfl
set_option maxRecDepth 100000 in
theorem cr_9_48 : a_cr 9 48 = some (1, 3, mX5_spread) := rfl
set_option maxRecDepth 100000 in
theorem cr_9_52 : a_cr 9 52 = some (1, 3, mX6_spread) := rfl
set_option maxRecDepth 100000 in
theorem cr_9_53 : a_cr 9 53 = some (1, 1, mX5_mark) := rfl
set_option maxRecDepth 100000 in
theorem cr_9_56 : a_cr 9 56 = some (1, 1, mX6_mark) := rfl
set_option maxRecDepth 100000 in
theorem cr_9_57 : a_cr 9 57 = some (1, 1, mX5_under) := rfl
set_option maxRecDepth 100000 in
theorem cr_9_60 : a_cr 9 60 = some (1, 1, mX6_under) := rfl
set_option maxRecDepth 100000 in
theorem cr_9_61 : a_cr 9 61 = some (1, 1, mX5_cleaned) := rfl
set_option maxRecDepth 100000 in
theorem cr_9_64 : a_cr 9 64 = some (1, 1, mX6_cleaned) := rfl
set_option maxRecDepth 100000 in
theorem cr_9_65 : a_cr 9 65 = some (1, 3, mX5_paint) := rfl
set_option maxRecDepth 100000 in
theorem cr_9_69 : a_cr 9 69 = some (1, 3, mX6_paint) := rfl
set_option maxRecDepth 100000 in
theorem cr_9_70 : a_cr 9 70 = some (1, 1, mX5_light) := rfl
set_option maxRecDepth 100000 in
theorem cr_9_73 : a_cr 9 73 = some (1, 1, mX6_light) := rfl
set_option maxRecDepth 100000 in
theorem cr_9_74 : a_cr 9 74 = some (1, 3, mX5_rule) := rfl
set_option maxRecDepth 100000 in
theorem cr_9_77 : a_cr 9 77 = some (1, 3, mX6_rule) := rfl
set_option maxRecDepth 100000 in
theorem cr_9_78 : a_cr 9 78 = some (1, 2, mX5_table) := rfl
set_option maxRecDepth 100000 in
theorem cr_9_81 : a_cr 9 81 = some (1, 2, mX6_table) := rfl
set_option maxRecDepth 100000 in
theorem cr_9_82 : a_cr 9 82 = some (1, 2, mX5_lay) := rfl
set_option maxRecDepth 100000 in
theorem cr_9_85 : a_cr 9 85 = some (1, 2, mX6_lay) := rfl
set_option maxRecDepth 100000 in
theorem cr_9_86 : a_cr 9 86 = some (1, 0, mX5_undo) := rfl
set_option maxRecDepth 100000 in
theorem cr_9_89 : a_cr 9 89 = some (1, 0, mX6_undo) := rfl
set_option maxRecDepth 100000 in
theorem cr_9_90 : a_cr 9 90 = some (1, 3, mX5_fit) := rfl
set_option maxRecDepth 100000 in
theorem cr_9_93 : a_cr 9 93 = some (1, 3, mX6_fit) := rfl
set_option maxRecDepth 100000 in
theorem cr_9_94 : a_cr 9 94 = some (1, 1, mX5_best) := rfl
set_option maxRecDepth 100000 in
theorem cr_9_97 : a_cr 9 97 = some (1, 1, mX6_best) := rfl
set_option maxRecDepth 100000 in
theorem cr_9_100 : a_cr 9 100 = some (1, 2, mX5_judge) := rfl
set_option maxRecDepth 100000 in
theorem cr_9_104 : a_cr 9 104 = some (1, 2, mX6_judge) := rfl
set_option maxRecDepth 100000 in
theorem cr_9_105 : a_cr 9 105 = some (1, 2, mX5_share) := rfl
set_option maxRecDepth 100000 in
theorem cr_9_109 : a_cr 9 109 = some (1, 2, mX6_share) := rfl
set_option maxRecDepth 100000 in
theorem cr_9_110 : a_cr 9 110 = some (1, 2, mX5_see) := rfl
set_option maxRecDepth 100000 in
theorem cr_9_113 : a_cr 9 113 = some (1, 2, mX6_see) := rfl
set_option maxRecDepth 100000 in
theorem cr_9_114 : a_cr 9 114 = some (1, 0, mX5_unsee) := rfl
set_option maxRecDepth 100000 in
theorem cr_9_117 : a_cr 9 117 = some (1, 0, mX6_unsee) := rfl
set_option maxRecDepth 100000 in
theorem cr_9_118 : a_cr 9 118 = some (1, 1, mX5_ways) := rfl
set_option maxRecDepth 100000 in
theorem cr_9_121 : a_cr 9 121 = some (1, 1, mX6_ways) := rfl
set_option maxRecDepth 100000 in
theorem cr_9_122 : a_cr 9 122 = some (1, 4, mX5_bleached) := rfl
set_option maxRecDepth 100000 in
theorem cr_9_126 : a_cr 9 126 = some (1, 4, mX6_bleached) := rfl
set_option maxRecDepth 100000 in
theorem cr_9_127 : a_cr 9 127 = some (1, 1, mX5_seed) := rfl
set_option maxRecDepth 100000 in
theorem cr_9_131 : a_cr 9 131 = some (1, 1, mX6_seed) := rfl
set_option maxRecDepth 100000 in
theorem cr_9_132 : a_cr 9 132 = some (1, 1, mX5_drawn) := rfl
set_option maxRecDepth 100000 in
theorem cr_9_135 : a_cr 9 135 = some (1, 1, mX6_drawn) := rfl
set_option maxRecDepth 100000 in
theorem cr_9_136 : a_cr 9 136 = some (1, 1, mX5_keep) := rfl
set_option maxRecDepth 100000 in
theorem cr_9_139 : a_cr 9 139 = some (1, 1, mX6_keep) := rfl
set_option maxRecDepth 100000 in
theorem cr_9_140 : a_cr 9 140 = some (1, 1, mX5_again) := rfl
set_option maxRecDepth 100000 in
theorem cr_9_143 : a_cr 9 143 = some (1, 1, mX6_again) := rfl
set_option maxRecDepth 100000 in
theorem cr_3_77 : a_cr 3 77 = some (2, 1, mX5_isFigure) := rfl
theorem no_3_77 : a_ac 3 77 = none ∧ a_mh 3 77 = none := by decide +kernel

