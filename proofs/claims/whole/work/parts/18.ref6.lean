/-- the lie that fits best: found, its sum, its number -/
def blF (p : Nat → Int32) (w h : Nat) (n : Nat) : Int32 × Int32 × Int32 := it (fun k t => if (¬ (ftF p w h (nI (k / 3) - 1) (nI (k % 3) - 1) (w * h)).2 ≤ 0) ∧ (t.1 = -9 ∨ ¬ (t.2.1 * (ftF p w h (nI (k / 3) - 1) (nI (k % 3) - 1) (w * h)).2 ≤ (ftF p w h (nI (k / 3) - 1) (nI (k % 3) - 1) (w * h)).1 * t.2.2)) then (nI (10 * (k / 3) + k % 3), ftF p w h (nI (k / 3) - 1) (nI (k % 3) - 1) (w * h)) else t) (-9, 0, 1) n
theorem c_bestLie6 {w h : Nat} {S : aS} (hp : pOk (S 37) w h) (G : aG) : ∃ S', rw6 S S' ∧ ∀ Q, (aX mX6_bestLie 0 [.ref 34, .null, .null, .null, .null] [] S G Q ↔ Q (some (.int (blF (S 37) w h 9).1)) S' G) := by
  obtain ⟨S', hS', hX⟩ := lpx (P := fun i S' Q => aX mX6_bestLie 10 [.ref 34, .int (blF (S 37) w h i).1, .int (blF (S 37) w h i).2.1, .int (blF (S 37) w h i).2.2, .int (nI i)] [] S' G Q) (I := fun _ S' => rw6 S S') (Nat.zero_le 9) (fun i T _ hi hT => by
    have e := hT.1 37 (by decide)
    refine ⟨w2 T (ftF (T 37) w h (nI (i / 3) - 1) (nI (i % 3) - 1) (w * h)), rw6_trans hT (rw6_w2 _ _), fun Q => ?_⟩
    have d1 : nI i / (3 : Int32) = nI (i / 3) := pk_div (d := 3) (by omega) (by omega) (by omega)
    have d2 : nI i - nI (i / 3) * (3 : Int32) = nI (i % 3) := rem_n i 3
    have d3 : (10 : Int32) * nI (i / 3) + nI (i % 3) = nI (10 * (i / 3) + i % 3) := by rw [show (10 : Int32) = nI 10 from rfl, pk_mul, nI_add]
    refine (x_X6_bestLie_10 _ _ _ _ _ _ _ _).trans ?_
    simp only [nle (c := 9) (n := 9) rfl hi (by omega), x_X6_bestLie_17, a_cls_34, d1, d2, c_layFit (S := T) (by rw [e]; exact hp), x_X6_bestLie_33, x_X6_bestLie_40, x_X6_bestLie_46, x_X6_bestLie_61, x_X6_bestLie_84, w2_17, w2_18, d3, nI_1, e, a_push_s, a_push_n, true_and, and_true, true_implies, false_implies, implies_true, not_true_eq_false, not_false_eq_true, e_10, e_01, e_11, e_00, or_true, true_or, or_false, false_or, and_self, false_and, and_false, Bool.false_eq_true, if_true, if_false]
    have es := it_succ (fun k t => if (¬ (ftF (S 37) w h (nI (k / 3) - 1) (nI (k % 3) - 1) (w * h)).2 ≤ 0) ∧ (t.1 = -9 ∨ ¬ (t.2.1 * (ftF (S 37) w h (nI (k / 3) - 1) (nI (k % 3) - 1) (w * h)).2 ≤ (ftF (S 37) w h (nI (k / 3) - 1) (nI (k % 3) - 1) (w * h)).1 * t.2.2)) then (nI (10 * (k / 3) + k % 3), ftF (S 37) w h (nI (k / 3) - 1) (nI (k % 3) - 1) (w * h)) else t) (-9, 0, 1) i
    rw [show blF (S 37) w h (i + 1) = _ from es, show it _ _ i = blF (S 37) w h i from rfl]
    generalize blF (S 37) w h i = t
    generalize ftF (S 37) w h (nI (i / 3) - 1) (nI (i % 3) - 1) (w * h) = f
    by_cases c1 : f.2 ≤ 0
    · simp only [c1, a_push_s, a_push_n, true_and, and_true, true_implies, false_implies, implies_true, not_true_eq_false, not_false_eq_true, e_10, e_01, e_11, e_00, or_true, true_or, or_false, false_or, and_self, false_and, and_false, Bool.false_eq_true, if_true, if_false]
    · by_cases c2 : t.1 = -9
      · simp only [c1, c2, a_push_s, a_push_n, true_and, and_true, true_implies, false_implies, implies_true, not_true_eq_false, not_false_eq_true, e_10, e_01, e_11, e_00, or_true, true_or, or_false, false_or, and_self, false_and, and_false, Bool.false_eq_true, if_true, if_false]
      · by_cases c3 : t.2.1 * f.2 ≤ f.1 * t.2.2
        · simp only [c1, c2, c3, a_push_s, a_push_n, true_and, and_true, true_implies, false_implies, implies_true, not_true_eq_false, not_false_eq_true, e_10, e_01, e_11, e_00, or_true, true_or, or_false, false_or, and_self, false_and, and_false, Bool.false_eq_true, if_true, if_false]
        · simp only [c1, c2, c3, a_push_s, a_push_n, true_and, and_true, true_implies, false_implies, implies_true, not_true_eq_false, not_false_eq_true, e_10, e_01, e_11, e_00, or_true, true_or, or_false, false_or, and_self, false_and, and_false, Bool.false_eq_true, if_true, if_false]) S (rw6_refl S)
  refine ⟨S', hS', fun Q => ?_⟩
  rw [x_X6_bestLie_0]
  refine (hX Q).trans ?_
  simp only [x_X6_bestLie_10, yle (c := 9) (n := 9) rfl (Nat.le_refl 9) (by omega), x_X6_bestLie_90, a_push_s, a_push_n, true_and, and_true, true_implies, false_implies, implies_true, not_true_eq_false, not_false_eq_true, e_10, e_01, e_11, e_00, or_true, true_or, or_false, false_or, and_self, false_and, and_false, Bool.false_eq_true, if_true, if_false]
/-- which window and number: found, its ink -/
def brF (ink : Nat → Int32) (most : Int32) (n : Nat) : Int32 × Int32 := it (fun k t => if (t.1 = -9 ∧ (¬ most = 0 ∨ ¬ ink k ≤ 0)) ∨ (¬ t.1 = -9 ∧ ((¬ most = 0 ∧ ¬ ink k ≤ t.2) ∨ (most = 0 ∧ ¬ ink k ≤ 0 ∧ ¬ t.2 ≤ ink k))) then (nI k, ink k) else t) (-9, 0) n
theorem c_bestRule6 {w h : Nat} {S : aS} (hp : pOk (S 37) w h) (most : Int32) (G : aG) : ∃ S', rt6 S S' ∧ ∀ Q, (aX mX6_bestRule 0 [.ref 34, .int most, .null, .null, .null, .null, .null] [] S G Q ↔ Q (some (.int (brF (fun k => manyF (inkF (S 37) w h (k / 10) (nI (k % 10)))) most 30).1)) S' G) := by
  obtain ⟨ink, hink⟩ : ∃ ink : Nat → Int32, ink = fun k => manyF (inkF (S 37) w h (k / 10) (nI (k % 10))) := ⟨_, rfl⟩
  obtain ⟨⟨S', v5, v6⟩, hS', hX⟩ := lpx (τ := aS × Value × Value) (P := fun i t Q => aX mX6_bestRule 8 [.ref 34, .int most, .int (brF ink most i).1, .int (brF ink most i).2, .int (nI i), t.2.1, t.2.2] [] t.1 G Q) (I := fun _ t => rt6 S t.1) (Nat.zero_le 30) (fun i t _ hi hT => by
    obtain ⟨T, u, v⟩ := t
    have hT : rt6 S T := hT
    have e := hT.1 37 (by decide) (by decide) (by decide) (by decide)
    obtain ⟨T', hT', hI⟩ := c_inkBy (S := T) (b := i) (by rw [e]; exact hp) hi G
    rw [e] at hI
    have es := it_succ (fun k t => if (t.1 = -9 ∧ (¬ most = 0 ∨ ¬ ink k ≤ 0)) ∨ (¬ t.1 = -9 ∧ ((¬ most = 0 ∧ ¬ ink k ≤ t.2) ∨ (most = 0 ∧ ¬ ink k ≤ 0 ∧ ¬ t.2 ≤ ink k))) then (nI k, ink k) else t) (-9, 0) i
    have hi2 : manyF (inkF (S 37) w h (i / 10) (nI (i % 10))) = ink i := by rw [hink]
    have main : ∀ c : Prop, (c ↔ ((brF ink most i).1 = -9 ∧ (¬ most = 0 ∨ ¬ ink i ≤ 0)) ∨ (¬ (brF ink most i).1 = -9 ∧ ((¬ most = 0 ∧ ¬ ink i ≤ (brF ink most i).2) ∨ (most = 0 ∧ ¬ ink i ≤ 0 ∧ ¬ (brF ink most i).2 ≤ ink i)))) → (c → brF ink most (i + 1) = (nI i, ink i)) ∧ (¬ c → brF ink most (i + 1) = brF ink most i) := by
      intro c hc
      constructor
      · intro h; rw [show brF ink most (i + 1) = _ from es]; exact if_pos (hc.mp h)
      · intro h; rw [show brF ink most (i + 1) = _ from es]; exact if_neg (fun z => h (hc.mpr z))
    refine ⟨(T', .int (ink i), if ((brF ink most i).1 = -9 ∧ (¬ most = 0 ∨ ¬ ink i ≤ 0)) ∨ (¬ (brF ink most i).1 = -9 ∧ ((¬ most = 0 ∧ ¬ ink i ≤ (brF ink most i).2) ∨ (most = 0 ∧ ¬ ink i ≤ 0 ∧ ¬ (brF ink most i).2 ≤ ink i))) then .int 1 else .int 0), rt6_trans hT hT', fun Q => ?_⟩
    refine (x_X6_bestRule_8 _ _ _ _ _ _ _ _ _ _).trans ?_
    obtain ⟨m1, m2⟩ := main _ Iff.rfl
    clear es main
    generalize brF ink most (i + 1) = t2 at m1 m2 ⊢
    generalize brF ink most i = t at m1 m2 ⊢
    by_cases cc : (t.1 = -9 ∧ (¬ most = 0 ∨ ¬ ink i ≤ 0)) ∨ (¬ t.1 = -9 ∧ ((¬ most = 0 ∧ ¬ ink i ≤ t.2) ∨ (most = 0 ∧ ¬ ink i ≤ 0 ∧ ¬ t.2 ≤ ink i)))
    · rw [m1 cc, if_pos cc]
      simp only [nle (c := 30) (n := 30) rfl hi (by omega), x_X6_bestRule_15, x_X6_bestRule_21, x_X6_bestRule_24, x_X6_bestRule_32, x_X6_bestRule_36, x_X6_bestRule_41, x_X6_bestRule_45, x_X6_bestRule_49, x_X6_bestRule_53, x_X6_bestRule_59, x_X6_bestRule_63, x_X6_bestRule_67, x_X6_bestRule_72, x_X6_bestRule_78, x_X6_bestRule_82, x_X6_bestRule_83, x_X6_bestRule_90, x_X6_bestRule_95, x_X6_bestRule_96, x_X6_bestRule_102, x_X6_bestRule_107, x_X6_bestRule_108, a_cls_34, hI, c_many, hi2, nI_1, a_push_s, a_push_n, true_and, and_true, true_implies, false_implies, implies_true, not_true_eq_false, not_false_eq_true, e_10, e_01, e_11, e_00, or_true, true_or, or_false, false_or, and_self, false_and, and_false, Bool.false_eq_true, if_true, if_false]
      by_cases z1 : t.1 = -9
      · by_cases z2 : most = 0
        · by_cases z3 : ink i ≤ 0
          · simp only [z1, z2, z3, a_push_s, a_push_n, true_and, and_true, true_implies, false_implies, implies_true, not_true_eq_false, not_false_eq_true, e_10, e_01, e_11, e_00, or_true, true_or, or_false, false_or, and_self, false_and, and_false, Bool.false_eq_true, if_true, if_false] at cc
          · simp only [z1, z2, z3, a_push_s, a_push_n, true_and, and_true, true_implies, false_implies, implies_true, not_true_eq_false, not_false_eq_true, e_10, e_01, e_11, e_00, or_true, true_or, or_false, false_or, and_self, false_and, and_false, Bool.false_eq_true, if_true, if_false]
        · simp only [z1, z2, a_push_s, a_push_n, true_and, and_true, true_implies, false_implies, implies_true, not_true_eq_false, not_false_eq_true, e_10, e_01, e_11, e_00, or_true, true_or, or_false, false_or, and_self, false_and, and_false, Bool.false_eq_true, if_true, if_false]
      · by_cases z2 : most = 0
        · by_cases z3 : ink i ≤ 0
          · simp only [z1, z2, z3, a_push_s, a_push_n, true_and, and_true, true_implies, false_implies, implies_true, not_true_eq_false, not_false_eq_true, e_10, e_01, e_11, e_00, or_true, true_or, or_false, false_or, and_self, false_and, and_false, Bool.false_eq_true, if_true, if_false] at cc
          · by_cases z4 : t.2 ≤ ink i
            · simp only [z1, z2, z3, z4, a_push_s, a_push_n, true_and, and_true, true_implies, false_implies, implies_true, not_true_eq_false, not_false_eq_true, e_10, e_01, e_11, e_00, or_true, true_or, or_false, false_or, and_self, false_and, and_false, Bool.false_eq_true, if_true, if_false] at cc
            · simp only [z1, z2, z3, z4, a_push_s, a_push_n, true_and, and_true, true_implies, false_implies, implies_true, not_true_eq_false, not_false_eq_true, e_10, e_01, e_11, e_00, or_true, true_or, or_false, false_or, and_self, false_and, and_false, Bool.false_eq_true, if_true, if_false]
        · by_cases z4 : ink i ≤ t.2
          · simp only [z1, z2, z4, a_push_s, a_push_n, true_and, and_true, true_implies, false_implies, implies_true, not_true_eq_false, not_false_eq_true, e_10, e_01, e_11, e_00, or_true, true_or, or_false, false_or, and_self, false_and, and_false, Bool.false_eq_true, if_true, if_false] at cc
          · simp only [z1, z2, z4, a_push_s, a_push_n, true_and, and_true, true_implies, false_implies, implies_true, not_true_eq_false, not_false_eq_true, e_10, e_01, e_11, e_00, or_true, true_or, or_false, false_or, and_self, false_and, and_false, Bool.false_eq_true, if_true, if_false]
    · rw [m2 cc, if_neg cc]
      simp only [nle (c := 30) (n := 30) rfl hi (by omega), x_X6_bestRule_15, x_X6_bestRule_21, x_X6_bestRule_24, x_X6_bestRule_32, x_X6_bestRule_36, x_X6_bestRule_41, x_X6_bestRule_45, x_X6_bestRule_49, x_X6_bestRule_53, x_X6_bestRule_59, x_X6_bestRule_63, x_X6_bestRule_67, x_X6_bestRule_72, x_X6_bestRule_78, x_X6_bestRule_82, x_X6_bestRule_83, x_X6_bestRule_90, x_X6_bestRule_95, x_X6_bestRule_96, x_X6_bestRule_102, x_X6_bestRule_107, x_X6_bestRule_108, a_cls_34, hI, c_many, hi2, nI_1, a_push_s, a_push_n, true_and, and_true, true_implies, false_implies, implies_true, not_true_eq_false, not_false_eq_true, e_10, e_01, e_11, e_00, or_true, true_or, or_false, false_or, and_self, false_and, and_false, Bool.false_eq_true, if_true, if_false]
      by_cases z1 : t.1 = -9
      · by_cases z2 : most = 0
        · by_cases z3 : ink i ≤ 0
          · simp only [z1, z2, z3, a_push_s, a_push_n, true_and, and_true, true_implies, false_implies, implies_true, not_true_eq_false, not_false_eq_true, e_10, e_01, e_11, e_00, or_true, true_or, or_false, false_or, and_self, false_and, and_false, Bool.false_eq_true, if_true, if_false]
          · simp only [z1, z2, z3, a_push_s, a_push_n, true_and, and_true, true_implies, false_implies, implies_true, not_true_eq_false, not_false_eq_true, e_10, e_01, e_11, e_00, or_true, true_or, or_false, false_or, and_self, false_and, and_false, Bool.false_eq_true, if_true, if_false] at cc
        · simp only [z1, z2, a_push_s, a_push_n, true_and, and_true, true_implies, false_implies, implies_true, not_true_eq_false, not_false_eq_true, e_10, e_01, e_11, e_00, or_true, true_or, or_false, false_or, and_self, false_and, and_false, Bool.false_eq_true, if_true, if_false] at cc
      · by_cases z2 : most = 0
        · by_cases z3 : ink i ≤ 0
          · simp only [z1, z2, z3, a_push_s, a_push_n, true_and, and_true, true_implies, false_implies, implies_true, not_true_eq_false, not_false_eq_true, e_10, e_01, e_11, e_00, or_true, true_or, or_false, false_or, and_self, false_and, and_false, Bool.false_eq_true, if_true, if_false]
          · by_cases z4 : t.2 ≤ ink i
            · simp only [z1, z2, z3, z4, a_push_s, a_push_n, true_and, and_true, true_implies, false_implies, implies_true, not_true_eq_false, not_false_eq_true, e_10, e_01, e_11, e_00, or_true, true_or, or_false, false_or, and_self, false_and, and_false, Bool.false_eq_true, if_true, if_false]
            · simp only [z1, z2, z3, z4, a_push_s, a_push_n, true_and, and_true, true_implies, false_implies, implies_true, not_true_eq_false, not_false_eq_true, e_10, e_01, e_11, e_00, or_true, true_or, or_false, false_or, and_self, false_and, and_false, Bool.false_eq_true, if_true, if_false] at cc
        · by_cases z4 : ink i ≤ t.2
          · simp only [z1, z2, z4, a_push_s, a_push_n, true_and, and_true, true_implies, false_implies, implies_true, not_true_eq_false, not_false_eq_true, e_10, e_01, e_11, e_00, or_true, true_or, or_false, false_or, and_self, false_and, and_false, Bool.false_eq_true, if_true, if_false]
          · simp only [z1, z2, z4, a_push_s, a_push_n, true_and, and_true, true_implies, false_implies, implies_true, not_true_eq_false, not_false_eq_true, e_10, e_01, e_11, e_00, or_true, true_or, or_false, false_or, and_self, false_and, and_false, Bool.false_eq_true, if_true, if_false] at cc) (S, .null, .null) (rt6_refl S)
  refine ⟨S', hS', fun Q => ?_⟩
  rw [x_X6_bestRule_0]
  refine (hX Q).trans ?_
  simp only [x_X6_bestRule_8, yle (c := 30) (n := 30) rfl (Nat.le_refl 30) (by omega), x_X6_bestRule_115, hink, a_push_s, a_push_n, true_and, and_true, true_implies, false_implies, implies_true, not_true_eq_false, not_false_eq_true, e_10, e_01, e_11, e_00, or_true, true_or, or_false, false_or, and_self, false_and, and_false, Bool.false_eq_true, if_true, if_false]
/-- a product from 2 on -/
def facF (k : Nat) (v : Int32) : Int32 := it (fun i v => v * nI (2 + i)) v (k - 1)
theorem c_orders {n k : Nat} (hk : k < n) (hn : n ≤ 5) (S : aS) (G : aG) (Q : aQ) : aX mX6_orders 0 [.int (nI n), .int (nI k), .null, .null] [] S G Q ↔ Q (some (.int (facF (n - 1 - k) (facF k 1)))) S G := by
  have e1 : nI n - 1 - nI k = nI (n - 1 - k) := by rw [show nI n - 1 = nI (n - 1) from pk_sub (a := n) (b := 1) (by omega), pk_sub (by omega)]
  have lt1 : ∀ a b : Nat, a < b → b < 100 → (nI a < nI b) = True := fun a b h1 h2 => eq_true (by rw [lt_i, n_i (by omega), n_i (by omega)]; omega)
  have lt2 : ∀ a b : Nat, b ≤ a → a < 100 → (nI a < nI b) = False := fun a b h1 h2 => eq_false (by rw [lt_i, n_i (by omega), n_i (by omega)]; omega)
  have two : (2 : Int32) = nI (2 + 0) := rfl
  rw [x_X6_orders_0, two]
  refine (lp (n := k - 1) (P := fun i => aX mX6_orders 4 [.int (nI n), .int (nI k), .int (it (fun i v => v * nI (2 + i)) 1 i), .int (nI (2 + i))] [] S G Q) (fun i hi => ?_)).trans ?_
  · refine (x_X6_orders_4 _ _ _ _ S G Q).trans ?_
    simp only [lt2 k (2 + i) (by omega) (by omega), x_X6_orders_9, nI_1, it_succ, Nat.add_assoc, a_push_s, a_push_n, true_and, and_true, true_implies, false_implies, implies_true, not_true_eq_false, not_false_eq_true, e_10, e_01, e_11, e_00, or_true, true_or, or_false, false_or, and_self, false_and, and_false, Bool.false_eq_true, if_true, if_false]
  · simp only [x_X6_orders_4, lt1 k (2 + (k - 1)) (by omega) (by omega), x_X6_orders_19, a_push_s, a_push_n, true_and, and_true, true_implies, false_implies, implies_true, not_true_eq_false, not_false_eq_true, e_10, e_01, e_11, e_00, or_true, true_or, or_false, false_or, and_self, false_and, and_false, Bool.false_eq_true, if_true, if_false]
    rw [two]
    refine (lp (n := n - 1 - k - 1) (P := fun i => aX mX6_orders 21 [.int (nI n), .int (nI k), .int (it (fun i v => v * nI (2 + i)) (it (fun i v => v * nI (2 + i)) 1 (k - 1)) i), .int (nI (2 + i))] [] S G Q) (fun i hi => ?_)).trans ?_
    · refine (x_X6_orders_21 _ _ _ _ S G Q).trans ?_
      simp only [e1, lt2 (n - 1 - k) (2 + i) (by omega) (by omega), x_X6_orders_30, nI_1, it_succ, Nat.add_assoc, a_push_s, a_push_n, true_and, and_true, true_implies, false_implies, implies_true, not_true_eq_false, not_false_eq_true, e_10, e_01, e_11, e_00, or_true, true_or, or_false, false_or, and_self, false_and, and_false, Bool.false_eq_true, if_true, if_false]
    · simp only [x_X6_orders_21, e1, lt1 (n - 1 - k) (2 + (n - 1 - k - 1)) (by omega) (by omega), x_X6_orders_40, facF, a_push_s, a_push_n, true_and, and_true, true_implies, false_implies, implies_true, not_true_eq_false, not_false_eq_true, e_10, e_01, e_11, e_00, or_true, true_or, or_false, false_or, and_self, false_and, and_false, Bool.false_eq_true, if_true, if_false]
