/-! JUDGE -/
theorem five_lp : ∀ i, i < 4 → lpF i = a_five i := by decide +kernel
theorem five_ne : ∀ i, i < 4 → a_five i ≠ 0 := by decide +kernel
theorem five_pos : ∀ i, i < 4 → 0 < (a_five i).toInt ∧ (a_five i).toInt ≤ 1000000000000000 := by decide +kernel
/-- five figures of a row -/
theorem told_ok {row f : Int64} (hr : 0 ≤ row.toInt) (hf : 0 < f.toInt) : ∃ t, t < 100000 ∧ Int64.toInt32 (row / f - row / f / 100000 * 100000) = nI t := by
  have r1 := Int64.toInt_lt row
  have f1 := Int64.toInt_lt f
  have ne : f.toInt ≠ -1 := by omega
  have e1 : (row / f).toInt = row.toInt / f.toInt := by
    rw [Int64.toInt_div]
    rw [Int.tdiv_eq_ediv_of_nonneg hr]
    have a1 : 0 ≤ row.toInt / f.toInt := Int.ediv_nonneg hr (by omega)
    have a2 : row.toInt / f.toInt ≤ row.toInt := Int.ediv_le_self _ hr
    rw [Int.bmod_def]
    have : (row.toInt / f.toInt) % (2 ^ 64 : Nat) = row.toInt / f.toInt := Int.emod_eq_of_lt a1 (by omega)
    rw [this]
    split <;> omega
  obtain ⟨x, hx⟩ : ∃ x, x = row / f := ⟨_, rfl⟩
  rw [← hx] at e1 ⊢
  have x0 : 0 ≤ x.toInt := by rw [e1]; exact Int.ediv_nonneg hr (by omega)
  have x1 := Int64.toInt_lt x
  have c5 : (100000 : Int64).toInt = 100000 := rfl
  have e2 : (x / 100000).toInt = x.toInt / 100000 := by
    rw [Int64.toInt_div, c5, Int.tdiv_eq_ediv_of_nonneg x0]
    rw [Int.bmod_def]
    have : (x.toInt / 100000) % (2 ^ 64 : Nat) = x.toInt / 100000 := Int.emod_eq_of_lt (by omega) (by omega)
    rw [this]
    split <;> omega
  have e3 : (x / 100000 * 100000).toInt = x.toInt / 100000 * 100000 := by
    rw [Int64.toInt_mul, e2, c5, Int.bmod_def]
    have : (x.toInt / 100000 * 100000) % (2 ^ 64 : Nat) = x.toInt / 100000 * 100000 := Int.emod_eq_of_lt (by omega) (by omega)
    rw [this]
    split <;> omega
  have e4 : (x - x / 100000 * 100000).toInt = x.toInt % 100000 := by
    rw [Int64.toInt_sub, e3, Int.bmod_def]
    have : (x.toInt - x.toInt / 100000 * 100000) % (2 ^ 64 : Nat) = x.toInt % 100000 := by
      rw [show x.toInt - x.toInt / 100000 * 100000 = x.toInt % 100000 by omega]
      exact Int.emod_eq_of_lt (by omega) (by omega)
    rw [this]
    split <;> omega
  refine ⟨(x.toInt % 100000).toNat, by omega, ?_⟩
  apply Int32.toInt_inj.mp
  rw [n_i (by omega), Int64.toInt_toInt32, e4, Int.bmod_def]
  have : (x.toInt % 100000) % (2 ^ 32 : Nat) = x.toInt % 100000 := Int.emod_eq_of_lt (by omega) (by omega)
  rw [this]
  split <;> omega
theorem j_loop {w h n : Nat} {row : Int64} (hn : n ≤ 3) (hr : 0 ≤ row.toInt) : ∀ (m k : Nat) (p : Nat → Int32), k + m = n → pOk p w h → ∃ r : Int32, (∀ (S : aS) (G : aG) (v : Value), sh S 7 p w h → ∃ S', clT S S' ∧ ∀ Q, (aX mX5_judge 43 [.ref 0, .int (nI n), .long row, .null, .int (nI k), v] [] S G Q ↔ Q (some (.int r)) S' G)) ∧ (∀ (S : aS) (G : aG), S 38 = p → ∃ S', scr S S' ∧ ∀ Q, (aX mX6_judge 44 [.ref 34, .int (nI n), .long row, .null, .int (nI k)] [] S G Q ↔ Q (some (.int r)) S' G)) := by
  intro m
  induction m with
  | zero =>
    intro k p hk hp
    refine ⟨-9, fun S G v hs => ⟨S, clT_refl S, fun Q => ?_⟩, fun S G hs => ⟨S, scr_refl S, fun Q => ?_⟩⟩
    · simp only [x_X5_judge_43, yle rfl (show n ≤ k by omega) (show k < 2147483648 by omega), x_X5_judge_86, a_push_s, a_push_n, true_and, and_true, true_implies, false_implies, implies_true, not_true_eq_false, not_false_eq_true, e_10, e_01, e_11, e_00, or_true, true_or, or_false, false_or, and_self, false_and, and_false, Bool.false_eq_true, if_true, if_false]
    · simp only [x_X6_judge_44, yle rfl (show n ≤ k by omega) (show k < 2147483648 by omega), x_X6_judge_85, a_push_s, a_push_n, true_and, and_true, true_implies, false_implies, implies_true, not_true_eq_false, not_false_eq_true, e_10, e_01, e_11, e_00, or_true, true_or, or_false, false_or, and_self, false_and, and_false, Bool.false_eq_true, if_true, if_false]
  | succ m ih =>
    intro k p hk hp
    have hf := five_pos (n - 1 - k) (by omega)
    have ne := five_ne (n - 1 - k) (by omega)
    have el := five_lp (n - 1 - k) (by omega)
    obtain ⟨t, ht, et⟩ := told_ok hr hf.1
    obtain ⟨r, q, hr01, hq, h5, h6⟩ := td_all (t := t) hp ht
    have e1 : nI n - 1 - nI k = nI (n - 1 - k) := by rw [show nI n - 1 = nI (n - 1) from pk_sub (a := n) (b := 1) (by omega), pk_sub (by omega)]
    have tt : (1003 = 1003) = True := by decide
    obtain ⟨f, ef⟩ : ∃ f, f = a_five (n - 1 - k) := ⟨_, rfl⟩
    rw [← ef] at et el ne
    obtain ⟨r2, g5, g6⟩ := ih (k + 1) q (by omega) hq
    rcases hr01 with r0 | r1
    · subst r0
      refine ⟨nI k, fun S G v hs => ?_, fun S G hs => ?_⟩
      · obtain ⟨S', a1, a2, a3⟩ := h5 S G hs
        refine ⟨S', a1, fun Q => ?_⟩
        rw [x_X5_judge_43]
        simp only [nle rfl (show k < n by omega) (show n < 2147483648 by omega), x_X5_judge_49, a_cls_0, a_rf_0_0, a_rf_0_1, a_rf_0_2, a_rf_0_3, a_rf_0_4, a_rf_0_5, a_rf_0_6, a_rf_0_7, a_rf_0_8, a_cls_1, a_rf_1_0, a_len_2, a_get_2, a_cls_3, a_rf_3_0, a_rf_3_1, a_rf_3_2, a_len_4, a_get_4, a_len_5, a_get_5, a_len_6, a_get_6, a_cls_7, a_rf_7_0, a_rf_7_1, a_rf_7_2, a_len_8, a_get_8, a_len_9, a_get_9, a_len_10, a_get_10, a_cls_11, a_rf_11_0, a_rf_11_1, a_rf_11_2, a_len_12, a_get_12, a_len_13, a_get_13, a_len_14, a_get_14, a_cls_15, a_rf_15_0, a_rf_15_1, a_rf_15_2, a_len_16, a_get_16, a_len_17, a_get_17, a_len_18, a_get_18, a_cls_19, a_rf_19_0, a_rf_19_1, a_rf_19_2, a_rf_19_3, a_rf_19_4, a_len_20, a_get_20, a_len_21, a_get_21, a_len_22, a_get_22, a_len_23, a_get_23, a_len_24, a_get_24, a_cls_25, a_rf_25_0, a_rf_25_1, a_rf_25_2, a_rf_25_3, a_len_26, a_get_26, a_len_27, a_get_27, a_len_28, a_get_28, a_len_29, a_get_29, a_cls_30, a_rf_30_0, a_rf_30_1, a_len_31, a_get_31, a_len_32, a_get_32, a_len_33, a_get_33, a_cls_34, a_rf_34_1, a_rf_34_3, a_rf_34_4, a_rf_34_5, a_rf_34_6, a_rf_34_8, a_rf_34_9, a_rf_34_11, a_rf_34_12, a_rf_34_21, a_len_35, a_get_35, a_len_36, a_get_36, a_len_37, a_get_37, a_len_38, a_get_38, a_len_39, a_get_39, a_len_40, a_get_40, a_len_42, a_get_42, a_len_43, a_get_43, a_len_44, a_get_44, a_len_1000, a_get_1000, a_len_1002, a_get_1002, l45, tt, e1, ain (show n - 1 - k < 4 by omega) (by omega), tc_n (show n - 1 - k < 2147483648 by omega), ← ef, ne, et, a3, x_X5_judge_74, x_X5_judge_77, a_push_s, a_push_n, true_and, and_true, true_implies, false_implies, implies_true, not_true_eq_false, not_false_eq_true, e_10, e_01, e_11, e_00, or_true, true_or, or_false, false_or, and_self, false_and, and_false, Bool.false_eq_true, if_true, if_false]
      · obtain ⟨S', a1, a2, a3⟩ := h6 S G hs
        refine ⟨S', a1, fun Q => ?_⟩
        rw [x_X6_judge_44]
        simp only [nle rfl (show k < n by omega) (show n < 2147483648 by omega), x_X6_judge_50, e1, c_longPower (show n - 1 - k < 1000 by omega), el, x_X6_judge_64, a_cls_0, a_rf_0_0, a_rf_0_1, a_rf_0_2, a_rf_0_3, a_rf_0_4, a_rf_0_5, a_rf_0_6, a_rf_0_7, a_rf_0_8, a_cls_1, a_rf_1_0, a_len_2, a_get_2, a_cls_3, a_rf_3_0, a_rf_3_1, a_rf_3_2, a_len_4, a_get_4, a_len_5, a_get_5, a_len_6, a_get_6, a_cls_7, a_rf_7_0, a_rf_7_1, a_rf_7_2, a_len_8, a_get_8, a_len_9, a_get_9, a_len_10, a_get_10, a_cls_11, a_rf_11_0, a_rf_11_1, a_rf_11_2, a_len_12, a_get_12, a_len_13, a_get_13, a_len_14, a_get_14, a_cls_15, a_rf_15_0, a_rf_15_1, a_rf_15_2, a_len_16, a_get_16, a_len_17, a_get_17, a_len_18, a_get_18, a_cls_19, a_rf_19_0, a_rf_19_1, a_rf_19_2, a_rf_19_3, a_rf_19_4, a_len_20, a_get_20, a_len_21, a_get_21, a_len_22, a_get_22, a_len_23, a_get_23, a_len_24, a_get_24, a_cls_25, a_rf_25_0, a_rf_25_1, a_rf_25_2, a_rf_25_3, a_len_26, a_get_26, a_len_27, a_get_27, a_len_28, a_get_28, a_len_29, a_get_29, a_cls_30, a_rf_30_0, a_rf_30_1, a_len_31, a_get_31, a_len_32, a_get_32, a_len_33, a_get_33, a_cls_34, a_rf_34_1, a_rf_34_3, a_rf_34_4, a_rf_34_5, a_rf_34_6, a_rf_34_8, a_rf_34_9, a_rf_34_11, a_rf_34_12, a_rf_34_21, a_len_35, a_get_35, a_len_36, a_get_36, a_len_37, a_get_37, a_len_38, a_get_38, a_len_39, a_get_39, a_len_40, a_get_40, a_len_42, a_get_42, a_len_43, a_get_43, a_len_44, a_get_44, a_len_1000, a_get_1000, a_len_1002, a_get_1002, l45, ne, et, a3, x_X6_judge_73, x_X6_judge_76, a_push_s, a_push_n, true_and, and_true, true_implies, false_implies, implies_true, not_true_eq_false, not_false_eq_true, e_10, e_01, e_11, e_00, or_true, true_or, or_false, false_or, and_self, false_and, and_false, Bool.false_eq_true, if_true, if_false]
    · subst r1
      refine ⟨r2, fun S G v hs => ?_, fun S G hs => ?_⟩
      · obtain ⟨S', a1, a2, a3⟩ := h5 S G hs
        obtain ⟨S2, b1, b2⟩ := g5 S' G (.int (nI t)) a2
        refine ⟨S2, clT_trans a1 b1, fun Q => Iff.trans ?_ (b2 Q)⟩
        rw [x_X5_judge_43]
        simp only [nle rfl (show k < n by omega) (show n < 2147483648 by omega), x_X5_judge_49, a_cls_0, a_rf_0_0, a_rf_0_1, a_rf_0_2, a_rf_0_3, a_rf_0_4, a_rf_0_5, a_rf_0_6, a_rf_0_7, a_rf_0_8, a_cls_1, a_rf_1_0, a_len_2, a_get_2, a_cls_3, a_rf_3_0, a_rf_3_1, a_rf_3_2, a_len_4, a_get_4, a_len_5, a_get_5, a_len_6, a_get_6, a_cls_7, a_rf_7_0, a_rf_7_1, a_rf_7_2, a_len_8, a_get_8, a_len_9, a_get_9, a_len_10, a_get_10, a_cls_11, a_rf_11_0, a_rf_11_1, a_rf_11_2, a_len_12, a_get_12, a_len_13, a_get_13, a_len_14, a_get_14, a_cls_15, a_rf_15_0, a_rf_15_1, a_rf_15_2, a_len_16, a_get_16, a_len_17, a_get_17, a_len_18, a_get_18, a_cls_19, a_rf_19_0, a_rf_19_1, a_rf_19_2, a_rf_19_3, a_rf_19_4, a_len_20, a_get_20, a_len_21, a_get_21, a_len_22, a_get_22, a_len_23, a_get_23, a_len_24, a_get_24, a_cls_25, a_rf_25_0, a_rf_25_1, a_rf_25_2, a_rf_25_3, a_len_26, a_get_26, a_len_27, a_get_27, a_len_28, a_get_28, a_len_29, a_get_29, a_cls_30, a_rf_30_0, a_rf_30_1, a_len_31, a_get_31, a_len_32, a_get_32, a_len_33, a_get_33, a_cls_34, a_rf_34_1, a_rf_34_3, a_rf_34_4, a_rf_34_5, a_rf_34_6, a_rf_34_8, a_rf_34_9, a_rf_34_11, a_rf_34_12, a_rf_34_21, a_len_35, a_get_35, a_len_36, a_get_36, a_len_37, a_get_37, a_len_38, a_get_38, a_len_39, a_get_39, a_len_40, a_get_40, a_len_42, a_get_42, a_len_43, a_get_43, a_len_44, a_get_44, a_len_1000, a_get_1000, a_len_1002, a_get_1002, l45, tt, e1, ain (show n - 1 - k < 4 by omega) (by omega), tc_n (show n - 1 - k < 2147483648 by omega), ← ef, ne, et, a3, x_X5_judge_74, x_X5_judge_80, nI_1, a_push_s, a_push_n, true_and, and_true, true_implies, false_implies, implies_true, not_true_eq_false, not_false_eq_true, e_10, e_01, e_11, e_00, or_true, true_or, or_false, false_or, and_self, false_and, and_false, Bool.false_eq_true, if_true, if_false]
      · obtain ⟨S', a1, a2, a3⟩ := h6 S G hs
        obtain ⟨S2, b1, b2⟩ := g6 S' G a2
        refine ⟨S2, scr_trans a1 b1, fun Q => Iff.trans ?_ (b2 Q)⟩
        rw [x_X6_judge_44]
        simp only [nle rfl (show k < n by omega) (show n < 2147483648 by omega), x_X6_judge_50, e1, c_longPower (show n - 1 - k < 1000 by omega), el, x_X6_judge_64, a_cls_0, a_rf_0_0, a_rf_0_1, a_rf_0_2, a_rf_0_3, a_rf_0_4, a_rf_0_5, a_rf_0_6, a_rf_0_7, a_rf_0_8, a_cls_1, a_rf_1_0, a_len_2, a_get_2, a_cls_3, a_rf_3_0, a_rf_3_1, a_rf_3_2, a_len_4, a_get_4, a_len_5, a_get_5, a_len_6, a_get_6, a_cls_7, a_rf_7_0, a_rf_7_1, a_rf_7_2, a_len_8, a_get_8, a_len_9, a_get_9, a_len_10, a_get_10, a_cls_11, a_rf_11_0, a_rf_11_1, a_rf_11_2, a_len_12, a_get_12, a_len_13, a_get_13, a_len_14, a_get_14, a_cls_15, a_rf_15_0, a_rf_15_1, a_rf_15_2, a_len_16, a_get_16, a_len_17, a_get_17, a_len_18, a_get_18, a_cls_19, a_rf_19_0, a_rf_19_1, a_rf_19_2, a_rf_19_3, a_rf_19_4, a_len_20, a_get_20, a_len_21, a_get_21, a_len_22, a_get_22, a_len_23, a_get_23, a_len_24, a_get_24, a_cls_25, a_rf_25_0, a_rf_25_1, a_rf_25_2, a_rf_25_3, a_len_26, a_get_26, a_len_27, a_get_27, a_len_28, a_get_28, a_len_29, a_get_29, a_cls_30, a_rf_30_0, a_rf_30_1, a_len_31, a_get_31, a_len_32, a_get_32, a_len_33, a_get_33, a_cls_34, a_rf_34_1, a_rf_34_3, a_rf_34_4, a_rf_34_5, a_rf_34_6, a_rf_34_8, a_rf_34_9, a_rf_34_11, a_rf_34_12, a_rf_34_21, a_len_35, a_get_35, a_len_36, a_get_36, a_len_37, a_get_37, a_len_38, a_get_38, a_len_39, a_get_39, a_len_40, a_get_40, a_len_42, a_get_42, a_len_43, a_get_43, a_len_44, a_get_44, a_len_1000, a_get_1000, a_len_1002, a_get_1002, l45, ne, et, a3, x_X6_judge_73, x_X6_judge_79, nI_1, a_push_s, a_push_n, true_and, and_true, true_implies, false_implies, implies_true, not_true_eq_false, not_false_eq_true, e_10, e_01, e_11, e_00, or_true, true_or, or_false, false_or, and_self, false_and, and_false, Bool.false_eq_true, if_true, if_false]
theorem cmp_lt (v a : Int64) : (lg_cmp v a < 0) = (v.toInt < a.toInt) := by
  unfold lg_cmp
  simp only [gt_iff_lt, lt_l, lt_i, ← Int64.toInt_inj]
  split
  · simp only [ti_1, ti_0, eq_iff_iff]; omega
  · split
    · simp only [ti_0, eq_iff_iff]; omega
    · simp only [ti_m1, ti_0, eq_iff_iff]; omega
theorem five_m1 : ∀ i, i < 4 → (a_five i - 1).toInt = (a_five i).toInt - 1 := by decide +kernel
theorem p_judge {X N : Nat → Int32} {S : aS} {G : aG} (hI : InvE X N S G) (q : Int32) (row : Int64) : Pr X N mX5_judge mX6_judge [.ref 0, .int q, .long row, .null, .null, .null] [.ref 34, .int q, .long row, .null, .null] S G := by
  have hI0 := hI
  obtain ⟨w, h, T, nt, nd, b0, b1, ns, hi⟩ := hI
  have hs3 := hi.1.2
  have hp := hi.1.1
  have hn := pOk_n hp
  have q1 : (q < 1) = (q.toInt < 1) := by rw [lt_i]; rfl
  have q3 : (3 < q) = (3 < q.toInt) := by rw [lt_i]; rfl
  have r0 : (lg_cmp row 0 < 0) = (row.toInt < 0) := cmp_lt row 0
  have tt : (1003 = 1003) = True := by decide
  by_cases c1 : 1 ≤ q.toInt ∧ q.toInt ≤ 3
  · obtain ⟨n, hn3, rfl⟩ := nI_back (x := q) (by omega) (n := 4) (by omega)
    have n_ : 1 ≤ n := by have := c1.1; rw [n_i (by omega)] at this; omega
    have x1 : ¬ (nI n).toInt < 1 := by omega
    have x3 : ¬ 3 < (nI n).toInt := by omega
    have el := five_lp n hn3
    have em := five_m1 n hn3
    by_cases c2 : 0 ≤ row.toInt ∧ row.toInt ≤ (a_five n - 1).toInt
    · have y0 : ¬ row.toInt < 0 := by omega
      have y1 : (lg_cmp row (a_five n) < 0) = True := by rw [cmp_lt]; exact eq_true (by omega)
      obtain ⟨p0, ep⟩ : ∃ p0, p0 = cpR S 38 (S 37) 0 67 38 := ⟨_, rfl⟩
      have eqp : eqP p0 (S 37) := fun j hj => by rw [ep, cpR_in _ _ _ (by omega)]; rfl
      have hp0 := pOk_ext hp eqp
      obtain ⟨r, h5, h6⟩ := j_loop (w := w) (h := h) (n := n) (row := row) (by omega) c2.1 n 0 p0 (by omega) hp0
      obtain ⟨S1, a1, a2, a3⟩ := c_copyFrom sha7 hs3.1 (by decide) S G
      have s1 := sh_ext (a2 _ _ _ hp hs3) hn.2 eqp
      obtain ⟨S2, b1, b2⟩ := h5 S1 G .null s1
      have rS := clT_trans (clT_7 a1) b1
      have g37 : a_pf S2 34 0 0 37 = S 37 := by rw [a_pf_row _ _ _ (by decide), rS 37 (by omega) (by omega)]
      have g38 : a_pf S2 34 0 0 38 = S 38 := by rw [a_pf_row _ _ _ (by decide), rS 38 (by omega) (by omega)]
      obtain ⟨S3, e3⟩ : ∃ S3, S3 = cpR (a_pf S2 34 0 0) 38 (S 37) 0 67 := ⟨_, rfl⟩
      have e38 : S3 38 = p0 := by
        rw [e3, ep]
        unfold cpR
        rw [a_wr_same, a_wr_same, g38]
      obtain ⟨S4, d1, d2⟩ := h6 S3 G e38
      have cn : (1 : Int) ≤ (nI n).toInt ∧ (nI n).toInt ≤ 3 := c1
      refine Pr_q hI0 (.int r) S2 S4 (clT_scr rS) (scr_trans (scr_rw (rw6_pf S2 0 (Or.inl rfl))) (scr_trans (by rw [e3]; exact scr_38 _ _) d1)) (fun Q => ?_) (fun Q => ?_)
      · refine Iff.trans ?_ (b2 Q)
        rw [x_X5_judge_0]
        simp only [q1, x1, x_X5_judge_5, q3, x3, x_X5_judge_10, r0, y0, x_X5_judge_16, tt, ain (show n < 4 by omega) (by omega), tc_n (show n < 2147483648 by omega), y1, x_X5_judge_29, a_cls_0, a_rf_0_0, a_rf_0_1, a_rf_0_2, a_rf_0_3, a_rf_0_4, a_rf_0_5, a_rf_0_6, a_rf_0_7, a_rf_0_8, a_cls_1, a_rf_1_0, a_len_2, a_get_2, a_cls_3, a_rf_3_0, a_rf_3_1, a_rf_3_2, a_len_4, a_get_4, a_len_5, a_get_5, a_len_6, a_get_6, a_cls_7, a_rf_7_0, a_rf_7_1, a_rf_7_2, a_len_8, a_get_8, a_len_9, a_get_9, a_len_10, a_get_10, a_cls_11, a_rf_11_0, a_rf_11_1, a_rf_11_2, a_len_12, a_get_12, a_len_13, a_get_13, a_len_14, a_get_14, a_cls_15, a_rf_15_0, a_rf_15_1, a_rf_15_2, a_len_16, a_get_16, a_len_17, a_get_17, a_len_18, a_get_18, a_cls_19, a_rf_19_0, a_rf_19_1, a_rf_19_2, a_rf_19_3, a_rf_19_4, a_len_20, a_get_20, a_len_21, a_get_21, a_len_22, a_get_22, a_len_23, a_get_23, a_len_24, a_get_24, a_cls_25, a_rf_25_0, a_rf_25_1, a_rf_25_2, a_rf_25_3, a_len_26, a_get_26, a_len_27, a_get_27, a_len_28, a_get_28, a_len_29, a_get_29, a_cls_30, a_rf_30_0, a_rf_30_1, a_len_31, a_get_31, a_len_32, a_get_32, a_len_33, a_get_33, a_cls_34, a_rf_34_1, a_rf_34_3, a_rf_34_4, a_rf_34_5, a_rf_34_6, a_rf_34_8, a_rf_34_9, a_rf_34_11, a_rf_34_12, a_rf_34_21, a_len_35, a_get_35, a_len_36, a_get_36, a_len_37, a_get_37, a_len_38, a_get_38, a_len_39, a_get_39, a_len_40, a_get_40, a_len_42, a_get_42, a_len_43, a_get_43, a_len_44, a_get_44, a_len_1000, a_get_1000, a_len_1002, a_get_1002, l45, a3, x_X5_judge_40, nI_0, a_push_s, a_push_n, true_and, and_true, true_implies, false_implies, implies_true, not_true_eq_false, not_false_eq_true, e_10, e_01, e_11, e_00, or_true, true_or, or_false, false_or, and_self, false_and, and_false, Bool.false_eq_true, if_true, if_false]
      · refine Iff.trans ?_ (d2 Q)
        rw [x_X6_judge_0]
        simp only [x_X6_judge_5, x_X6_judge_14, x_X6_judge_17, x_X6_judge_26, x_X6_judge_31, x_X6_judge_37, x_X6_judge_41, a_cls_0, a_rf_0_0, a_rf_0_1, a_rf_0_2, a_rf_0_3, a_rf_0_4, a_rf_0_5, a_rf_0_6, a_rf_0_7, a_rf_0_8, a_cls_1, a_rf_1_0, a_len_2, a_get_2, a_cls_3, a_rf_3_0, a_rf_3_1, a_rf_3_2, a_len_4, a_get_4, a_len_5, a_get_5, a_len_6, a_get_6, a_cls_7, a_rf_7_0, a_rf_7_1, a_rf_7_2, a_len_8, a_get_8, a_len_9, a_get_9, a_len_10, a_get_10, a_cls_11, a_rf_11_0, a_rf_11_1, a_rf_11_2, a_len_12, a_get_12, a_len_13, a_get_13, a_len_14, a_get_14, a_cls_15, a_rf_15_0, a_rf_15_1, a_rf_15_2, a_len_16, a_get_16, a_len_17, a_get_17, a_len_18, a_get_18, a_cls_19, a_rf_19_0, a_rf_19_1, a_rf_19_2, a_rf_19_3, a_rf_19_4, a_len_20, a_get_20, a_len_21, a_get_21, a_len_22, a_get_22, a_len_23, a_get_23, a_len_24, a_get_24, a_cls_25, a_rf_25_0, a_rf_25_1, a_rf_25_2, a_rf_25_3, a_len_26, a_get_26, a_len_27, a_get_27, a_len_28, a_get_28, a_len_29, a_get_29, a_cls_30, a_rf_30_0, a_rf_30_1, a_len_31, a_get_31, a_len_32, a_get_32, a_len_33, a_get_33, a_cls_34, a_rf_34_1, a_rf_34_3, a_rf_34_4, a_rf_34_5, a_rf_34_6, a_rf_34_8, a_rf_34_9, a_rf_34_11, a_rf_34_12, a_rf_34_21, a_len_35, a_get_35, a_len_36, a_get_36, a_len_37, a_get_37, a_len_38, a_get_38, a_len_39, a_get_39, a_len_40, a_get_40, a_len_42, a_get_42, a_len_43, a_get_43, a_len_44, a_get_44, a_len_1000, a_get_1000, a_len_1002, a_get_1002, l45, c_in, i2l_i, tl_0, tl_1, tl_3, bq_t cn, c_longPower (show n < 1000 by omega), el, bq_t c2, c_begin, g37, ← e3, nI_0, a_push_s, a_push_n, true_and, and_true, true_implies, false_implies, implies_true, not_true_eq_false, not_false_eq_true, e_10, e_01, e_11, e_00, or_true, true_or, or_false, false_or, and_self, false_and, and_false, Bool.false_eq_true, if_true, if_false]
    · have cn : (1 : Int) ≤ (nI n).toInt ∧ (nI n).toInt ≤ 3 := c1
      refine Pr_q hI0 (.int (-2)) S (a_pf S 34 0 0) (scr_refl S) (scr_rw (rw6_pf S 0 (Or.inl rfl))) (fun Q => ?_) (fun Q => ?_)
      · rw [x_X5_judge_0]
        by_cases y0 : row.toInt < 0
        · simp only [q1, x1, x_X5_judge_5, q3, x3, x_X5_judge_10, r0, y0, x_X5_judge_26, a_push_s, a_push_n, true_and, and_true, true_implies, false_implies, implies_true, not_true_eq_false, not_false_eq_true, e_10, e_01, e_11, e_00, or_true, true_or, or_false, false_or, and_self, false_and, and_false, Bool.false_eq_true, if_true, if_false]
        · have y1 : (lg_cmp row (a_five n) < 0) = False := by rw [cmp_lt]; exact eq_false (by omega)
          simp only [q1, x1, x_X5_judge_5, q3, x3, x_X5_judge_10, r0, y0, x_X5_judge_16, tt, ain (show n < 4 by omega) (by omega), tc_n (show n < 2147483648 by omega), y1, x_X5_judge_26, a_push_s, a_push_n, true_and, and_true, true_implies, false_implies, implies_true, not_true_eq_false, not_false_eq_true, e_10, e_01, e_11, e_00, or_true, true_or, or_false, false_or, and_self, false_and, and_false, Bool.false_eq_true, if_true, if_false]
      · rw [x_X6_judge_0]
        simp only [x_X6_judge_5, x_X6_judge_14, x_X6_judge_17, x_X6_judge_26, x_X6_judge_31, x_X6_judge_34, a_cls_0, a_rf_0_0, a_rf_0_1, a_rf_0_2, a_rf_0_3, a_rf_0_4, a_rf_0_5, a_rf_0_6, a_rf_0_7, a_rf_0_8, a_cls_1, a_rf_1_0, a_len_2, a_get_2, a_cls_3, a_rf_3_0, a_rf_3_1, a_rf_3_2, a_len_4, a_get_4, a_len_5, a_get_5, a_len_6, a_get_6, a_cls_7, a_rf_7_0, a_rf_7_1, a_rf_7_2, a_len_8, a_get_8, a_len_9, a_get_9, a_len_10, a_get_10, a_cls_11, a_rf_11_0, a_rf_11_1, a_rf_11_2, a_len_12, a_get_12, a_len_13, a_get_13, a_len_14, a_get_14, a_cls_15, a_rf_15_0, a_rf_15_1, a_rf_15_2, a_len_16, a_get_16, a_len_17, a_get_17, a_len_18, a_get_18, a_cls_19, a_rf_19_0, a_rf_19_1, a_rf_19_2, a_rf_19_3, a_rf_19_4, a_len_20, a_get_20, a_len_21, a_get_21, a_len_22, a_get_22, a_len_23, a_get_23, a_len_24, a_get_24, a_cls_25, a_rf_25_0, a_rf_25_1, a_rf_25_2, a_rf_25_3, a_len_26, a_get_26, a_len_27, a_get_27, a_len_28, a_get_28, a_len_29, a_get_29, a_cls_30, a_rf_30_0, a_rf_30_1, a_len_31, a_get_31, a_len_32, a_get_32, a_len_33, a_get_33, a_cls_34, a_rf_34_1, a_rf_34_3, a_rf_34_4, a_rf_34_5, a_rf_34_6, a_rf_34_8, a_rf_34_9, a_rf_34_11, a_rf_34_12, a_rf_34_21, a_len_35, a_get_35, a_len_36, a_get_36, a_len_37, a_get_37, a_len_38, a_get_38, a_len_39, a_get_39, a_len_40, a_get_40, a_len_42, a_get_42, a_len_43, a_get_43, a_len_44, a_get_44, a_len_1000, a_get_1000, a_len_1002, a_get_1002, l45, c_in, i2l_i, tl_0, tl_1, tl_3, bq_t cn, c_longPower (show n < 1000 by omega), el, bq_f c2, a_push_s, a_push_n, true_and, and_true, true_implies, false_implies, implies_true, not_true_eq_false, not_false_eq_true, e_10, e_01, e_11, e_00, or_true, true_or, or_false, false_or, and_self, false_and, and_false, Bool.false_eq_true, if_true, if_false]
  · refine Pr_q hI0 (.int (-2)) S (a_pf S 34 0 0) (scr_refl S) (scr_rw (rw6_pf S 0 (Or.inl rfl))) (fun Q => ?_) (fun Q => ?_)
    · rw [x_X5_judge_0]
      by_cases y : q.toInt < 1
      · simp only [q1, y, x_X5_judge_26, a_push_s, a_push_n, true_and, and_true, true_implies, false_implies, implies_true, not_true_eq_false, not_false_eq_true, e_10, e_01, e_11, e_00, or_true, true_or, or_false, false_or, and_self, false_and, and_false, Bool.false_eq_true, if_true, if_false]
      · have y3 : 3 < q.toInt := by omega
        simp only [q1, y, x_X5_judge_5, q3, y3, x_X5_judge_26, a_push_s, a_push_n, true_and, and_true, true_implies, false_implies, implies_true, not_true_eq_false, not_false_eq_true, e_10, e_01, e_11, e_00, or_true, true_or, or_false, false_or, and_self, false_and, and_false, Bool.false_eq_true, if_true, if_false]
    · rw [x_X6_judge_0]
      simp only [x_X6_judge_5, x_X6_judge_14, x_X6_judge_34, a_cls_0, a_rf_0_0, a_rf_0_1, a_rf_0_2, a_rf_0_3, a_rf_0_4, a_rf_0_5, a_rf_0_6, a_rf_0_7, a_rf_0_8, a_cls_1, a_rf_1_0, a_len_2, a_get_2, a_cls_3, a_rf_3_0, a_rf_3_1, a_rf_3_2, a_len_4, a_get_4, a_len_5, a_get_5, a_len_6, a_get_6, a_cls_7, a_rf_7_0, a_rf_7_1, a_rf_7_2, a_len_8, a_get_8, a_len_9, a_get_9, a_len_10, a_get_10, a_cls_11, a_rf_11_0, a_rf_11_1, a_rf_11_2, a_len_12, a_get_12, a_len_13, a_get_13, a_len_14, a_get_14, a_cls_15, a_rf_15_0, a_rf_15_1, a_rf_15_2, a_len_16, a_get_16, a_len_17, a_get_17, a_len_18, a_get_18, a_cls_19, a_rf_19_0, a_rf_19_1, a_rf_19_2, a_rf_19_3, a_rf_19_4, a_len_20, a_get_20, a_len_21, a_get_21, a_len_22, a_get_22, a_len_23, a_get_23, a_len_24, a_get_24, a_cls_25, a_rf_25_0, a_rf_25_1, a_rf_25_2, a_rf_25_3, a_len_26, a_get_26, a_len_27, a_get_27, a_len_28, a_get_28, a_len_29, a_get_29, a_cls_30, a_rf_30_0, a_rf_30_1, a_len_31, a_get_31, a_len_32, a_get_32, a_len_33, a_get_33, a_cls_34, a_rf_34_1, a_rf_34_3, a_rf_34_4, a_rf_34_5, a_rf_34_6, a_rf_34_8, a_rf_34_9, a_rf_34_11, a_rf_34_12, a_rf_34_21, a_len_35, a_get_35, a_len_36, a_get_36, a_len_37, a_get_37, a_len_38, a_get_38, a_len_39, a_get_39, a_len_40, a_get_40, a_len_42, a_get_42, a_len_43, a_get_43, a_len_44, a_get_44, a_len_1000, a_get_1000, a_len_1002, a_get_1002, l45, c_in, i2l_i, tl_1, tl_3, bq_f c1, a_push_s, a_push_n, true_and, and_true, true_implies, false_implies, implies_true, not_true_eq_false, not_false_eq_true, e_10, e_01, e_11, e_00, or_true, true_or, or_false, false_or, and_self, false_and, and_false, Bool.false_eq_true, if_true, if_false]
