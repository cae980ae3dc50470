/-- the book's i-th page and what note does to it -/
theorem c_note {n : Nat} (hn : n ≤ 14) {S : aS} (h7 : S 34 7 = nI n) (G : aG) : ∃ S', (∀ k, k ≠ 34 → k ≠ 39 → S' k = S k) ∧ (∀ j, j ≠ 7 → S' 34 j = S 34 j) ∧ S' 34 7 = nI ((if n = 14 then 13 else n) + 1) ∧ (∀ i j, i < (if n = 14 then 13 else n) → j < 67 → S' 39 (67 * i + j) = S 39 (67 * (i + (if n = 14 then 1 else 0)) + j)) ∧ (∀ j, j < 67 → S' 39 (67 * (if n = 14 then 13 else n) + j) = S 37 j) ∧ ∀ Q, (aX mX6_note 0 [.ref 34, .null] [] S G Q ↔ Q none S' G) := by
  have tail : ∀ (m : Nat) (T : aS) (v : Value) (Q : aQ), m < 14 → T 34 7 = nI m → (aX mX6_note 49 [.ref 34, v] [] T G Q ↔ Q none (a_pf (cpR T 39 (T 37) (67 * m) 67) 34 7 (nI (m + 1))) G) := by
    intro m T v Q hm hT
    rw [x_X6_note_49]
    have h := lp (n := 67) (P := fun i => aX mX6_note 51 [.ref 34, .int (nI i)] [] (cpR T 39 (T 37) (67 * m) i) G Q) (fun i hi => by
      refine (x_X6_note_51 _ _ _ G Q).trans ?_
      simp only [nle (c := 67) (n := 67) rfl hi (by omega), x_X6_note_57, x_X6_note_77, a_cls_34, a_rf_34_4, a_rf_34_6, a_len_37, a_len_39, a_get_37, ain hi (show 67 ≤ 2147483648 by omega), cpR_row T (T 37) (67 * m) i (show 34 ≠ 39 by decide), cpR_row T (T 37) (67 * m) i (show 37 ≠ 39 by decide), hT, mul_67, nI_add, ain (show 67 * m + i < 938 by omega) (by omega), tc_n (show i < 2147483648 by omega), tc_n (show 67 * m + i < 2147483648 by omega), cpR_succ, nI_1, show (39 < 45) = True from eq_true (by decide), a_push_s, a_push_n, true_and, and_true, true_implies, false_implies, implies_true, not_true_eq_false, not_false_eq_true, e_10, e_01, e_11, e_00, or_true, true_or, or_false, false_or, and_self, false_and, and_false, Bool.false_eq_true, if_true, if_false])
    rw [cpR_0] at h
    refine h.trans ?_
    simp only [x_X6_note_51, yle (c := 67) (n := 67) rfl (Nat.le_refl 67) (by omega), x_X6_note_83, x_X6_note_93, a_cls_34, cpR_row T (T 37) (67 * m) 67 (show 34 ≠ 39 by decide), hT, nI_1, a_push_s, a_push_n, true_and, and_true, true_implies, false_implies, implies_true, not_true_eq_false, not_false_eq_true, e_10, e_01, e_11, e_00, or_true, true_or, or_false, false_or, and_self, false_and, and_false, Bool.false_eq_true, if_true, if_false]
  by_cases h14 : n = 14
  · subst h14
    simp only [if_true]
    obtain ⟨T, hT⟩ : ∃ T, T = a_pf (cpR S 39 (fun j => S 39 (j + 67)) 0 871) 34 7 (nI 13) := ⟨_, rfl⟩
    have t7 : T 34 7 = nI 13 := by rw [hT, a_pf_same]
    have tk : ∀ k, k ≠ 34 → k ≠ 39 → T k = S k := fun k h1 h2 => by rw [hT, a_pf_row _ _ _ h1, cpR_row _ _ _ _ h2]
    have t34 : ∀ j, j ≠ 7 → T 34 j = S 34 j := fun j hj => by rw [hT, a_pf_ne _ _ _ hj, cpR_row _ _ _ _ (by decide)]
    have t39 : ∀ j, j < 871 → T 39 j = S 39 (j + 67) := fun j hj => by rw [hT, a_pf_row _ _ _ (by decide), cpR_in S 39 _ (by omega)]; rfl
    refine ⟨a_pf (cpR T 39 (T 37) (67 * 13) 67) 34 7 (nI (13 + 1)), fun k h1 h2 => by rw [a_pf_row _ _ _ h1, cpR_row _ _ _ _ h2, tk k h1 h2], fun j hj => by rw [a_pf_ne _ _ _ hj, cpR_row _ _ _ _ (by decide), t34 j hj], by rw [a_pf_same], fun i j hi hj => ?_, fun j hj => ?_, fun Q => ?_⟩
    · rw [a_pf_row _ _ _ (by decide), cpR_out _ _ _ (by omega), t39 _ (by omega)]
      congr 1; omega
    · rw [a_pf_row _ _ _ (by decide), cpR_in _ _ _ (by omega), tk 37 (by decide) (by decide), Nat.add_sub_cancel_left]
    · have hx : aX mX6_note 0 [.ref 34, .null] [] S G Q ↔ aX mX6_note 11 [.ref 34, .int 0] [] S G Q := by
        have e14 : (nI 14 = 14) = True := eq_true (by decide)
        simp only [x_X6_note_0, a_cls_34, h7, e14, x_X6_note_9, a_push_s, a_push_n, true_and, and_true, true_implies, false_implies, implies_true, not_true_eq_false, not_false_eq_true, e_10, e_01, e_11, e_00, or_true, true_or, or_false, false_or, and_self, false_and, and_false, Bool.false_eq_true, if_true, if_false]
      refine hx.trans ?_
      have h := lp (n := 871) (P := fun i => aX mX6_note 11 [.ref 34, .int (nI i)] [] (cpR S 39 (fun j => S 39 (j + 67)) 0 i) G Q) (fun i hi => by
        have er : cpR S 39 (fun j => S 39 (j + 67)) 0 i 39 (i + 67) = S 39 (i + 67) := cpR_out _ _ _ (by omega)
        refine (x_X6_note_11 _ _ _ G Q).trans ?_
        simp only [nle (c := 871) (n := 871) rfl hi (by omega), x_X6_note_18, x_X6_note_33, a_cls_34, a_rf_34_6, a_len_39, a_get_39, add_67, ain (show i + 67 < 938 by omega) (by omega), ain (show i < 938 by omega) (by omega), tc_n (show i < 2147483648 by omega), tc_n (show i + 67 < 2147483648 by omega), er, cpR_succ0 S 39 (fun j => S 39 (j + 67)) i, nI_1, show (39 < 45) = True from eq_true (by decide), a_push_s, a_push_n, true_and, and_true, true_implies, false_implies, implies_true, not_true_eq_false, not_false_eq_true, e_10, e_01, e_11, e_00, or_true, true_or, or_false, false_or, and_self, false_and, and_false, Bool.false_eq_true, if_true, if_false])
      rw [cpR_0] at h
      refine h.trans ?_
      have e13 : nI 14 - 1 = nI 13 := by decide
      have e2 : cpR S 39 (fun j => S 39 (j + 67)) 0 871 34 7 = nI 14 := by rw [cpR_row _ _ _ _ (by decide)]; exact h7
      simp only [x_X6_note_11, yle (c := 871) (n := 871) rfl (Nat.le_refl 871) (by omega), x_X6_note_39, a_cls_34, e2, e13, ← hT, a_push_s, a_push_n, true_and, and_true, true_implies, false_implies, implies_true, not_true_eq_false, not_false_eq_true, e_10, e_01, e_11, e_00, or_true, true_or, or_false, false_or, and_self, false_and, and_false, Bool.false_eq_true, if_true, if_false]
      exact tail 13 T _ Q (by omega) t7
  · simp only [if_neg h14, Nat.add_zero]
    refine ⟨a_pf (cpR S 39 (S 37) (67 * n) 67) 34 7 (nI (n + 1)), fun k h1 h2 => by rw [a_pf_row _ _ _ h1, cpR_row _ _ _ _ h2], fun j hj => by rw [a_pf_ne _ _ _ hj, cpR_row _ _ _ _ (by decide)], by rw [a_pf_same], fun i j hi hj => ?_, fun j hj => ?_, fun Q => ?_⟩
    · have : 67 * i + 67 ≤ 67 * n := by omega
      rw [a_pf_row _ _ _ (by decide), cpR_out _ _ _ (by omega)]
    · rw [a_pf_row _ _ _ (by decide), cpR_in _ _ _ (by omega), Nat.add_sub_cancel_left]
    · have en : (nI n = 14) = False := eq_false (fun e => h14 ((nI_eq (by omega) (by omega)).mp (show nI n = nI 14 from e)))
      simp only [x_X6_note_0, a_cls_34, h7, en, a_push_s, a_push_n, true_and, and_true, true_implies, false_implies, implies_true, not_true_eq_false, not_false_eq_true, e_10, e_01, e_11, e_00, or_true, true_or, or_false, false_or, and_self, false_and, and_false, Bool.false_eq_true, if_true, if_false]
      exact tail n S _ Q (by omega) h7
theorem c_undo6 {n : Nat} (hn : n ≤ 14) {S : aS} (h7 : S 34 7 = nI n) (G : aG) : ∃ S', (n = 0 → rw6 S S') ∧ (0 < n → (∀ k, k ≠ 34 → k ≠ 37 → S' k = S k) ∧ (∀ j, j ≠ 0 → j ≠ 7 → S' 34 j = S 34 j) ∧ S' 34 7 = nI (n - 1) ∧ ∀ j, j < 67 → S' 37 j = S 39 (67 * (n - 1) + j)) ∧ ∀ Q, (aX mX6_undo 0 [.ref 34, .null] [] S G Q ↔ Q (some (.int (if n = 0 then -3 else nI (n - 1)))) S' G) := by
  have e7 : a_pf S 34 0 0 34 7 = nI n := by rw [a_pf_ne _ _ _ (by decide)]; exact h7
  by_cases h0 : n = 0
  · subst h0
    refine ⟨a_pf S 34 0 0, fun _ => rw6_pf S 0 (Or.inl rfl), fun h => absurd h (by decide), fun Q => ?_⟩
    have en : (nI 0 = 0) = True := eq_true (by decide)
    simp only [x_X6_undo_0, x_X6_undo_5, a_cls_34, e7, en, x_X6_undo_12, a_push_s, a_push_n, true_and, and_true, true_implies, false_implies, implies_true, not_true_eq_false, not_false_eq_true, e_10, e_01, e_11, e_00, or_true, true_or, or_false, false_or, and_self, false_and, and_false, Bool.false_eq_true, if_true, if_false]
  · have en : (nI n = 0) = False := eq_false (nI_ne0 (by omega) (by omega))
    have e1 : nI n - 1 = nI (n - 1) := pk_sub (a := n) (b := 1) (by omega)
    obtain ⟨T, hT⟩ : ∃ T, T = a_pf (a_pf S 34 0 0) 34 7 (nI (n - 1)) := ⟨_, rfl⟩
    have t7 : T 34 7 = nI (n - 1) := by rw [hT, a_pf_same]
    have tk : ∀ k, k ≠ 34 → T k = S k := fun k hk => by rw [hT, a_pf_row _ _ _ hk, a_pf_row _ _ _ hk]
    refine ⟨cpR T 37 (fun j => T 39 (67 * (n - 1) + j)) 0 67, fun h => absurd h h0, fun _ => ⟨fun k h1 h2 => by rw [cpR_row _ _ _ _ h2, tk k h1], fun j h1 h2 => by rw [cpR_row _ _ _ _ (by decide), hT, a_pf_ne _ _ _ h2, a_pf_ne _ _ _ h1], by rw [cpR_row _ _ _ _ (by decide), t7], fun j hj => by rw [cpR_in _ _ _ (by omega), tk 39 (by decide)]; rfl⟩, fun Q => ?_⟩
    simp only [x_X6_undo_0, x_X6_undo_5, x_X6_undo_15, x_X6_undo_25, a_cls_34, e7, en, e1, ← hT, a_push_s, a_push_n, true_and, and_true, true_implies, false_implies, implies_true, not_true_eq_false, not_false_eq_true, e_10, e_01, e_11, e_00, or_true, true_or, or_false, false_or, and_self, false_and, and_false, Bool.false_eq_true, if_true, if_false, if_neg h0]
    have h := lp (n := 67) (P := fun i => aX mX6_undo 27 [.ref 34, .int (nI i)] [] (cpR T 37 (fun j => T 39 (67 * (n - 1) + j)) 0 i) G Q) (fun i hi => by
      refine (x_X6_undo_27 _ _ _ G Q).trans ?_
      simp only [nle (c := 67) (n := 67) rfl hi (by omega), x_X6_undo_33, x_X6_undo_53, a_cls_34, a_rf_34_4, a_rf_34_6, a_len_37, a_len_39, a_get_39, ain hi (show 67 ≤ 2147483648 by omega), cpR_row T (fun j => T 39 (67 * (n - 1) + j)) 0 i (show 34 ≠ 37 by decide), cpR_row T (fun j => T 39 (67 * (n - 1) + j)) 0 i (show 39 ≠ 37 by decide), t7, mul_67, nI_add, ain (show 67 * (n - 1) + i < 938 by omega) (by omega), tc_n (show i < 2147483648 by omega), tc_n (show 67 * (n - 1) + i < 2147483648 by omega), cpR_succ0 T 37 (fun j => T 39 (67 * (n - 1) + j)) i, nI_1, show (37 < 45) = True from eq_true (by decide), a_push_s, a_push_n, true_and, and_true, true_implies, false_implies, implies_true, not_true_eq_false, not_false_eq_true, e_10, e_01, e_11, e_00, or_true, true_or, or_false, false_or, and_self, false_and, and_false, Bool.false_eq_true, if_true, if_false])
    rw [cpR_0] at h
    refine h.trans ?_
    simp only [x_X6_undo_27, yle (c := 67) (n := 67) rfl (Nat.le_refl 67) (by omega), x_X6_undo_59, a_cls_34, cpR_row T (fun j => T 39 (67 * (n - 1) + j)) 0 67 (show 34 ≠ 37 by decide), t7, a_push_s, a_push_n, true_and, and_true, true_implies, false_implies, implies_true, not_true_eq_false, not_false_eq_true, e_10, e_01, e_11, e_00, or_true, true_or, or_false, false_or, and_self, false_and, and_false, Bool.false_eq_true, if_true, if_false]
theorem c_isRule6 (a b c : Int32) (S : aS) (G : aG) (Q : aQ) : aX mX6_isRule 0 [.int a, .int b, .int c] [] S G Q ↔ bq ((0 ≤ a.toInt ∧ a.toInt ≤ 2) ∧ (0 ≤ b.toInt ∧ b.toInt ≤ 2) ∧ (0 ≤ c.toInt ∧ c.toInt ≤ 9)) Q S G := by
  simp only [x_X6_isRule_0, x_X6_isRule_9, x_X6_isRule_12, x_X6_isRule_21, x_X6_isRule_24, x_X6_isRule_33, x_X6_isRule_36, x_X6_isRule_40, x_X6_isRule_41, c_in, i2l_i, tl_0, tl_2, tl_9, a_push_s, a_push_n, true_and, and_true, true_implies, false_implies, implies_true, not_true_eq_false, not_false_eq_true, e_10, e_01, e_11, e_00, or_true, true_or, or_false, false_or, and_self, false_and, and_false, Bool.false_eq_true, if_true, if_false, bq]
  grind
theorem c_isLie6 (x y : Int32) (S : aS) (G : aG) (Q : aQ) : aX mX6_isLie 0 [.int x, .int y] [] S G Q ↔ bq ((-1 ≤ x.toInt ∧ x.toInt ≤ 1) ∧ (-1 ≤ y.toInt ∧ y.toInt ≤ 1)) Q S G := by
  simp only [x_X6_isLie_0, x_X6_isLie_9, x_X6_isLie_12, x_X6_isLie_21, x_X6_isLie_24, x_X6_isLie_28, x_X6_isLie_29, c_in, i2l_i, tl_m1, tl_1, a_push_s, a_push_n, true_and, and_true, true_implies, false_implies, implies_true, not_true_eq_false, not_false_eq_true, e_10, e_01, e_11, e_00, or_true, true_or, or_false, false_or, and_self, false_and, and_false, Bool.false_eq_true, if_true, if_false, bq]
  grind
theorem c_goRule {r : Nat} (hr : rr r) (a b c : Int32) (S : aS) (G : aG) (Q : aQ) : aX mX6_goRule 0 [.ref r, .int a, .int b, .int c] [] S G Q ↔ Q none (a_pf (a_pf (a_pf S r 52 a) r 53 b) r 54 c) G := by
  have hl := rr_lt hr
  have a52 : a_in 52 67 = True := eq_true (by decide)
  have a53 : a_in 53 67 = True := eq_true (by decide)
  have a54 : a_in 54 67 = True := eq_true (by decide)
  simp only [x_X6_goRule_0, x_X6_goRule_5, x_X6_goRule_10, x_X6_goRule_15, rr_len hr, hl, a52, a53, a54, tc_52, tc_53, tc_54, a_push_s, a_push_n, true_and, and_true, true_implies, false_implies, implies_true, not_true_eq_false, not_false_eq_true, e_10, e_01, e_11, e_00, or_true, true_or, or_false, false_or, and_self, false_and, and_false, Bool.false_eq_true, if_true, if_false]
theorem c_wipe6 (S : aS) (G : aG) (Q : aQ) : aX mX6_wipe 0 [.ref 34, .null] [] S G Q ↔ Q (some (.int (S 34 2))) (a_pf (a_pf S 34 0 0) 34 2 0) G := by
  have e : a_pf S 34 0 0 34 2 = S 34 2 := a_pf_ne _ _ _ (by decide)
  simp only [x_X6_wipe_0, x_X6_wipe_5, x_X6_wipe_15, a_cls_34, e, a_push_s, a_push_n, true_and, and_true, true_implies, false_implies, implies_true, not_true_eq_false, not_false_eq_true, e_10, e_01, e_11, e_00, or_true, true_or, or_false, false_or, and_self, false_and, and_false, Bool.false_eq_true, if_true, if_false]
theorem c_unsee6 (S : aS) (G : aG) (Q : aQ) : aX mX6_unsee 0 [.ref 34, .null] [] S G Q ↔ Q (some (.int (S 34 10))) (a_pf (a_pf S 34 0 0) 34 10 0) G := by
  have e : a_pf S 34 0 0 34 10 = S 34 10 := a_pf_ne _ _ _ (by decide)
  simp only [x_X6_unsee_0, x_X6_unsee_5, x_X6_unsee_15, a_cls_34, e, a_push_s, a_push_n, true_and, and_true, true_implies, false_implies, implies_true, not_true_eq_false, not_false_eq_true, e_10, e_01, e_11, e_00, or_true, true_or, or_false, false_or, and_self, false_and, and_false, Bool.false_eq_true, if_true, if_false]
theorem c_seed6 (v : Int64) (S : aS) (G : aG) (Q : aQ) : aX mX6_seed 0 [.ref 34, .long v, .null, .null, .null] [] S G Q ↔ Q (some (.long (G 34))) (a_pf S 34 0 0) (a_wr G 34 v) := by
  simp only [x_X6_seed_0, x_X6_seed_5, x_X6_seed_15, a_cls_34, a_push_s, a_push_n, true_and, and_true, true_implies, false_implies, implies_true, not_true_eq_false, not_false_eq_true, e_10, e_01, e_11, e_00, or_true, true_or, or_false, false_or, and_self, false_and, and_false, Bool.false_eq_true, if_true, if_false]
theorem c_write6 {n : Nat} (hn : n ≤ 56) {S : aS} (h2 : S 34 2 = nI n) (v : Int32) (G : aG) (Q : aQ) : aX mX6_write 0 [.ref 34, .int v] [] S G Q ↔ (if ¬ (0 ≤ v.toInt ∧ v.toInt ≤ 255) then Q (some (.int (-2))) (a_pf S 34 0 0) G else if n = 56 then Q (some (.int (-4))) (a_pf S 34 0 0) G else Q (some (.int (nI (n + 1)))) (a_pf (a_pf (a_pf S 34 0 0) 35 n v) 34 2 (nI (n + 1))) G) := by
  have e : a_pf S 34 0 0 34 2 = nI n := by rw [a_pf_ne _ _ _ (by decide)]; exact h2
  have e2 : a_pf (a_pf S 34 0 0) 35 n v 34 2 = nI n := by rw [a_pf_row _ _ _ (by decide)]; exact e
  simp only [x_X6_write_0, x_X6_write_5, x_X6_write_14, x_X6_write_17, x_X6_write_20, x_X6_write_29, x_X6_write_32, x_X6_write_42, x_X6_write_52, a_cls_34, a_rf_34_1, a_len_35, c_in, i2l_i, tl_0, tl_255, e, a_push_s, a_push_n, true_and, and_true, true_implies, false_implies, implies_true, not_true_eq_false, not_false_eq_true, e_10, e_01, e_11, e_00, or_true, true_or, or_false, false_or, and_self, false_and, and_false, Bool.false_eq_true, if_true, if_false, bq]
  by_cases c1 : 0 ≤ v.toInt ∧ v.toInt ≤ 255
  · by_cases c2 : n = 56
    · subst c2
      have e56 : (nI 56 = 56) = True := eq_true (by decide)
      simp only [c1, e56, a_push_s, a_push_n, true_and, and_true, true_implies, false_implies, implies_true, not_true_eq_false, not_false_eq_true, e_10, e_01, e_11, e_00, or_true, true_or, or_false, false_or, and_self, false_and, and_false, Bool.false_eq_true, if_true, if_false]
    · have e56 : (nI n = 56) = False := eq_false (fun z => c2 ((nI_eq (by omega) (by omega)).mp (show nI n = nI 56 from z)))
      simp only [c1, c2, e56, ain (show n < 56 by omega) (by omega), tc_n (show n < 2147483648 by omega), e2, nI_1, a_pf_same, show (35 < 45) = True from eq_true (by decide), a_push_s, a_push_n, true_and, and_true, true_implies, false_implies, implies_true, not_true_eq_false, not_false_eq_true, e_10, e_01, e_11, e_00, or_true, true_or, or_false, false_or, and_self, false_and, and_false, Bool.false_eq_true, if_true, if_false]
  · simp only [c1, a_push_s, a_push_n, true_and, and_true, true_implies, false_implies, implies_true, not_true_eq_false, not_false_eq_true, e_10, e_01, e_11, e_00, or_true, true_or, or_false, false_or, and_self, false_and, and_false, Bool.false_eq_true, if_true, if_false]
