/-! PURE: loops as iterations, comparisons over Int -/
def it {α : Type} (f : Nat → α → α) (a : α) : Nat → α
  | 0 => a
  | n + 1 => f n (it f a n)
theorem it_succ {α : Type} (f : Nat → α → α) (a : α) (n : Nat) : it f a (n + 1) = f n (it f a n) := rfl
theorem it_zero {α : Type} (f : Nat → α → α) (a : α) : it f a 0 = a := rfl
theorem it_congr {α : Type} {f g : Nat → α → α} {a : α} : ∀ {n : Nat}, (∀ i x, i < n → f i x = g i x) → it f a n = it g a n
  | 0, _ => rfl
  | n + 1, h => by rw [it_succ, it_succ, it_congr (fun i x hi => h i x (Nat.lt_succ_of_lt hi)), h n _ (Nat.lt_succ_self n)]
theorem lp_from {P : Nat → Prop} {a n : Nat} (han : a ≤ n) (h : ∀ i, a ≤ i → i < n → (P i ↔ P (i + 1))) : P a ↔ P n := by
  induction n with
  | zero => rw [Nat.le_zero.mp han]
  | succ n ih =>
    rcases Nat.lt_or_ge a (n + 1) with q | q
    · exact (ih (by omega) (fun i h1 h2 => h i h1 (by omega))).trans (h n (by omega) (by omega))
    · rw [show a = n + 1 by omega]
theorem lp {P : Nat → Prop} {n : Nat} (h : ∀ i, i < n → (P i ↔ P (i + 1))) : P 0 ↔ P n := lp_from (Nat.zero_le n) (fun i _ hi => h i hi)
theorem e_10 : ((1 : Int32) = 0) = False := by decide
theorem e_01 : ((0 : Int32) = 1) = False := by decide
theorem e_11 : ((1 : Int32) = 1) = True := by decide
theorem e_00 : ((0 : Int32) = 0) = True := by decide
theorem ti_m9 : (-9 : Int32).toInt = -9 := rfl
theorem ti_m1 : (-1 : Int32).toInt = -1 := rfl
theorem ti_0 : (0 : Int32).toInt = 0 := rfl
theorem ti_1 : (1 : Int32).toInt = 1 := rfl
theorem ti_2 : (2 : Int32).toInt = 2 := rfl
theorem ti_3 : (3 : Int32).toInt = 3 := rfl
theorem ti_4 : (4 : Int32).toInt = 4 := rfl
theorem ti_5 : (5 : Int32).toInt = 5 := rfl
theorem ti_6 : (6 : Int32).toInt = 6 := rfl
theorem ti_7 : (7 : Int32).toInt = 7 := rfl
theorem ti_8 : (8 : Int32).toInt = 8 := rfl
theorem ti_9 : (9 : Int32).toInt = 9 := rfl
theorem ti_10 : (10 : Int32).toInt = 10 := rfl
theorem ti_11 : (11 : Int32).toInt = 11 := rfl
theorem ti_12 : (12 : Int32).toInt = 12 := rfl
theorem ti_13 : (13 : Int32).toInt = 13 := rfl
theorem ti_14 : (14 : Int32).toInt = 14 := rfl
theorem ti_20 : (20 : Int32).toInt = 20 := rfl
theorem ti_25 : (25 : Int32).toInt = 25 := rfl
theorem ti_26 : (26 : Int32).toInt = 26 := rfl
theorem ti_27 : (27 : Int32).toInt = 27 := rfl
theorem ti_30 : (30 : Int32).toInt = 30 := rfl
theorem ti_31 : (31 : Int32).toInt = 31 := rfl
theorem ti_48 : (48 : Int32).toInt = 48 := rfl
theorem ti_49 : (49 : Int32).toInt = 49 := rfl
theorem ti_52 : (52 : Int32).toInt = 52 := rfl
theorem ti_53 : (53 : Int32).toInt = 53 := rfl
theorem ti_54 : (54 : Int32).toInt = 54 := rfl
theorem ti_55 : (55 : Int32).toInt = 55 := rfl
theorem ti_56 : (56 : Int32).toInt = 56 := rfl
theorem ti_57 : (57 : Int32).toInt = 57 := rfl
theorem ti_64 : (64 : Int32).toInt = 64 := rfl
theorem ti_65 : (65 : Int32).toInt = 65 := rfl
theorem ti_66 : (66 : Int32).toInt = 66 := rfl
theorem ti_67 : (67 : Int32).toInt = 67 := rfl
theorem ti_76 : (76 : Int32).toInt = 76 := rfl
theorem ti_100 : (100 : Int32).toInt = 100 := rfl
theorem ti_255 : (255 : Int32).toInt = 255 := rfl
theorem ti_1000 : (1000 : Int32).toInt = 1000 := rfl
theorem ti_10000 : (10000 : Int32).toInt = 10000 := rfl
theorem lt_i (a b : Int32) : (a < b) = (a.toInt < b.toInt) := propext Int32.lt_iff_toInt_lt
theorem le_i (a b : Int32) : (a ≤ b) = (a.toInt ≤ b.toInt) := propext Int32.le_iff_toInt_le
theorem eq_i (a b : Int32) : (a = b) = (a.toInt = b.toInt) := propext Int32.toInt_inj.symm
theorem lt_l (a b : Int64) : (a < b) = (a.toInt < b.toInt) := propext Int64.lt_iff_toInt_lt
theorem le_l (a b : Int64) : (a ≤ b) = (a.toInt ≤ b.toInt) := propext Int64.le_iff_toInt_le
theorem i_rng (x : Int32) : -2147483648 ≤ x.toInt ∧ x.toInt < 2147483648 := ⟨Int32.le_toInt x, Int32.toInt_lt x⟩
theorem tn_i (x : Int32) : x.toNatClampNeg = x.toInt.toNat := rfl
/-- a truth told as 1 or 0 -/
def bq (c : Prop) (Q : aQ) (S : aS) (G : aG) : Prop := (c → Q (some (.int 1)) S G) ∧ (¬ c → Q (some (.int 0)) S G)
theorem bq_t {c : Prop} (h : c) {Q : aQ} {S : aS} {G : aG} : bq c Q S G ↔ Q (some (.int 1)) S G := ⟨fun x => x.1 h, fun x => ⟨fun _ => x, fun n => absurd h n⟩⟩
theorem bq_f {c : Prop} (h : ¬ c) {Q : aQ} {S : aS} {G : aG} : bq c Q S G ↔ Q (some (.int 0)) S G := ⟨fun x => x.2 h, fun x => ⟨fun n => absurd n h, fun _ => x⟩⟩
theorem c_isSide (s : Int32) (S : aS) (G : aG) (Q : aQ) : aX mX5_isSide 0 [.int s] [] S G Q ↔ bq (s.toInt = 0 ∨ s.toInt = 1) Q S G := by
  simp only [x_X5_isSide_0, x_X5_isSide_4, x_X5_isSide_9, x_X5_isSide_13, x_X5_isSide_14, a_push_s, a_push_n, true_and, and_true, true_implies, false_implies, implies_true, not_true_eq_false, not_false_eq_true, e_10, e_01, e_11, e_00, or_true, true_or, or_false, false_or, and_self, false_and, and_false, Bool.false_eq_true, if_true, if_false, bq, eq_i, ti_0, ti_1]
  grind
theorem c_isFigure (s : Int32) (S : aS) (G : aG) (Q : aQ) : aX mX5_isFigure 0 [.int s] [] S G Q ↔ bq (0 ≤ s.toInt ∧ s.toInt ≤ 9) Q S G := by
  simp only [x_X5_isFigure_0, x_X5_isFigure_4, x_X5_isFigure_10, x_X5_isFigure_14, x_X5_isFigure_15, a_push_s, a_push_n, true_and, and_true, true_implies, false_implies, implies_true, not_true_eq_false, not_false_eq_true, e_10, e_01, e_11, e_00, or_true, true_or, or_false, false_or, and_self, false_and, and_false, Bool.false_eq_true, if_true, if_false, bq, lt_i, le_i, ti_0, ti_10]
  grind
theorem c_isLight (s : Int32) (S : aS) (G : aG) (Q : aQ) : aX mX5_isLight 0 [.int s] [] S G Q ↔ bq (-9 ≤ s.toInt ∧ s.toInt ≤ 9) Q S G := by
  simp only [x_X5_isLight_0, x_X5_isLight_6, x_X5_isLight_12, x_X5_isLight_16, x_X5_isLight_17, a_push_s, a_push_n, true_and, and_true, true_implies, false_implies, implies_true, not_true_eq_false, not_false_eq_true, e_10, e_01, e_11, e_00, or_true, true_or, or_false, false_or, and_self, false_and, and_false, Bool.false_eq_true, if_true, if_false, bq, lt_i, le_i, ti_m9, ti_9]
  grind
theorem c_isLie (x y : Int32) (S : aS) (G : aG) (Q : aQ) : aX mX5_isLie 0 [.int x, .int y] [] S G Q ↔ bq ((-1 ≤ x.toInt ∧ x.toInt ≤ 1) ∧ (-1 ≤ y.toInt ∧ y.toInt ≤ 1)) Q S G := by
  simp only [x_X5_isLie_0, x_X5_isLie_5, x_X5_isLie_10, x_X5_isLie_15, x_X5_isLie_20, x_X5_isLie_24, x_X5_isLie_25, a_push_s, a_push_n, true_and, and_true, true_implies, false_implies, implies_true, not_true_eq_false, not_false_eq_true, e_10, e_01, e_11, e_00, or_true, true_or, or_false, false_or, and_self, false_and, and_false, Bool.false_eq_true, if_true, if_false, bq, lt_i, le_i, ti_m1, ti_1]
  grind
theorem c_isSlot (s : Int32) (S : aS) (G : aG) (Q : aQ) : aX mX5_isSlot 0 [.int s] [] S G Q ↔ bq (0 ≤ s.toInt ∧ s.toInt ≤ 1) Q S G := by
  simp only [x_X5_isSlot_0, x_X5_isSlot_4, x_X5_isSlot_9, x_X5_isSlot_13, x_X5_isSlot_14, a_push_s, a_push_n, true_and, and_true, true_implies, false_implies, implies_true, not_true_eq_false, not_false_eq_true, e_10, e_01, e_11, e_00, or_true, true_or, or_false, false_or, and_self, false_and, and_false, Bool.false_eq_true, if_true, if_false, bq, lt_i, le_i, ti_0, ti_2]
  grind
theorem c_isRule (a b c : Int32) (S : aS) (G : aG) (Q : aQ) : aX mX5_isRule 0 [.int a, .int b, .int c] [] S G Q ↔ bq ((0 ≤ a.toInt ∧ a.toInt ≤ 2) ∧ (0 ≤ b.toInt ∧ b.toInt ≤ 2) ∧ (0 ≤ c.toInt ∧ c.toInt ≤ 9)) Q S G := by
  simp only [x_X5_isRule_0, x_X5_isRule_4, x_X5_isRule_9, x_X5_isRule_13, x_X5_isRule_18, x_X5_isRule_22, x_X5_isRule_25, x_X5_isRule_29, x_X5_isRule_30, c_isFigure, a_push_s, a_push_n, true_and, and_true, true_implies, false_implies, implies_true, not_true_eq_false, not_false_eq_true, e_10, e_01, e_11, e_00, or_true, true_or, or_false, false_or, and_self, false_and, and_false, Bool.false_eq_true, if_true, if_false, bq, lt_i, le_i, ti_0, ti_3]
  grind
theorem c_in (v a b : Int64) (S : aS) (G : aG) (Q : aQ) : aX mX6_in 0 [.long v, .null, .long a, .null, .long b, .null] [] S G Q ↔ bq (a.toInt ≤ v.toInt ∧ v.toInt ≤ b.toInt) Q S G := by
  have e1 : (lg_cmp v a < 0) = (v.toInt < a.toInt) := by
    unfold lg_cmp
    simp only [gt_iff_lt, lt_l, lt_i, ← Int64.toInt_inj]
    split
    · simp only [ti_1, ti_0, eq_iff_iff]; omega
    · split
      · simp only [ti_0, eq_iff_iff]; omega
      · simp only [ti_m1, ti_0, eq_iff_iff]; omega
  have e2 : (0 < lg_cmp v b) = (b.toInt < v.toInt) := by
    unfold lg_cmp
    simp only [gt_iff_lt, lt_l, lt_i, ← Int64.toInt_inj]
    split
    · simp only [ti_1, ti_0, eq_iff_iff]; omega
    · split
      · simp only [ti_0, eq_iff_iff]; omega
      · simp only [ti_m1, ti_0, eq_iff_iff]; omega
  simp only [x_X6_in_0, x_X6_in_6, x_X6_in_13, x_X6_in_17, x_X6_in_18, a_push_s, a_push_n, true_and, and_true, true_implies, false_implies, implies_true, not_true_eq_false, not_false_eq_true, e_10, e_01, e_11, e_00, or_true, true_or, or_false, false_or, and_self, false_and, and_false, Bool.false_eq_true, if_true, if_false, bq, e1, e2]
  grind
