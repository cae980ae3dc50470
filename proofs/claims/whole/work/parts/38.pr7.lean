/-! PAIRS: a new leaf -/
/-- a page that a text tells -/
def rdQ (p : Nat → Int32) (T : Nat → Nat) (n : Nat) : Prop := p 0 = nI (figN T n 1) ∧ p 1 = nI (figN T n 2) ∧ (∀ d, d < dotN T n → p (2 + d) = nI (figN T n (3 + d))) ∧ (∀ d, d < dotN T n → p (27 + d) = nI (figN T n (4 + dotN T n + d))) ∧ (p 52 = 0 ∧ p 53 = 1 ∧ p 54 = 1) ∧ (∀ g, g ≤ 9 → p (55 + g) = 0) ∧ p 65 = 0 ∧ p 66 = 0
theorem rdQ_ok {p : Nat → Int32} {T : Nat → Nat} {n : Nat} (h : rdQ p T n) (hw : (1 ≤ figN T n 1 ∧ figN T n 1 ≤ 5) ∧ (1 ≤ figN T n 2 ∧ figN T n 2 ≤ 5)) : pOk p (figN T n 1) (figN T n 2) := by
  obtain ⟨h0, h1, h2, h3, ⟨h4, h5, h6⟩, h7, h8, h9⟩ := h
  have e0 : ((0 : Int32).toInt : Int) = 0 := rfl
  refine ⟨⟨h0, h1, hw.1, hw.2⟩, fun d hd => ⟨_, figN_le T n _, h2 d hd⟩, fun d hd => ⟨_, figN_le T n _, h3 d hd⟩, ⟨0, by omega, h4⟩, ⟨1, by omega, h5⟩, ⟨1, by omega, h6⟩, fun g hg => ⟨0, by omega, h7 g hg⟩, ?_, ?_⟩
  · rw [h8, e0]; omega
  · rw [h9, e0]; omega
set_option maxHeartbeats 1000000 in
theorem c_becomeText {S : aS} {T : Nat → Nat} {n : Nat} (ht : tx S T n) (hw : (1 ≤ figN T n 1 ∧ figN T n 1 ≤ 5) ∧ (1 ≤ figN T n 2 ∧ figN T n 2 ≤ 5)) (G : aG) : ∃ S', (∀ c, c ∉ [3, 4, 5, 6] → S' c = S c) ∧ (∀ p, rdQ p T n → sh S' 3 p (figN T n 1) (figN T n 2)) ∧ ∀ Q, (aX mX3_becomeText 0 [.ref 3, .ref 1, .null] [] S G Q ↔ Q none S' G) := by
  obtain ⟨D, eD⟩ : ∃ D, D = dotN T n := ⟨_, rfl⟩
  have eD' : figN T n 1 * figN T n 2 = D := by rw [eD]; rfl
  have hD : 1 ≤ D ∧ D ≤ 25 := by rw [← eD']; exact ⟨Nat.mul_le_mul hw.1.1 hw.2.1, Nat.mul_le_mul hw.1.2 hw.2.2⟩
  have h3 : sha 3 := Or.inl rfl
  obtain ⟨T1, e1⟩ : ∃ T1, T1 = a_pf S 3 3 (nI (figN T n 1)) := ⟨_, rfl⟩
  obtain ⟨T2, e2⟩ : ∃ T2, T2 = a_pf T1 3 4 (nI (figN T n 2)) := ⟨_, rfl⟩
  have r1 : ∀ c, c ≠ 3 → T1 c = S c := fun c hc => by rw [e1, a_pf_row _ _ _ hc]
  have r2 : ∀ c, c ≠ 3 → T2 c = S c := fun c hc => by rw [e2, a_pf_row _ _ _ hc, r1 c hc]
  have t1 : tx T1 T n := tx_cells ht (by rw [r1 1 (by decide)]) (by rw [r1 34 (by decide)]) (r1 2 (by decide)) (r1 35 (by decide))
  have f1 : ∀ Q, aX mX4_figureAt 0 [.ref 1, .int 1] [] S G Q ↔ Q (some (.int (nI (figN T n 1)))) S G := fun Q => c_figureAt5 (j := 1) ht (by omega) G Q
  have f2 : ∀ Q, aX mX4_figureAt 0 [.ref 1, .int 2] [] T1 G Q ↔ Q (some (.int (nI (figN T n 2)))) T1 G := fun Q => c_figureAt5 (j := 2) t1 (by omega) G Q
  have pre : ∀ Q, aX mX3_becomeText 0 [.ref 3, .ref 1, .null] [] S G Q ↔ aX mX3_becomeText 20 [.ref 3, .ref 1, .int 0] [] T2 G Q := fun Q => by
    simp only [x_X3_becomeText_0, x_X3_becomeText_6, x_X3_becomeText_9, x_X3_becomeText_15, x_X3_becomeText_18, a_cls_0, a_rf_0_0, a_rf_0_1, a_rf_0_2, a_rf_0_3, a_rf_0_4, a_rf_0_5, a_rf_0_6, a_rf_0_7, a_rf_0_8, a_cls_1, a_rf_1_0, a_len_2, a_get_2, a_cls_3, a_rf_3_0, a_rf_3_1, a_rf_3_2, a_len_4, a_get_4, a_len_5, a_get_5, a_len_6, a_get_6, a_cls_7, a_rf_7_0, a_rf_7_1, a_rf_7_2, a_len_8, a_get_8, a_len_9, a_get_9, a_len_10, a_get_10, a_cls_11, a_rf_11_0, a_rf_11_1, a_rf_11_2, a_len_12, a_get_12, a_len_13, a_get_13, a_len_14, a_get_14, a_cls_15, a_rf_15_0, a_rf_15_1, a_rf_15_2, a_len_16, a_get_16, a_len_17, a_get_17, a_len_18, a_get_18, a_cls_19, a_rf_19_0, a_rf_19_1, a_rf_19_2, a_rf_19_3, a_rf_19_4, a_len_20, a_get_20, a_len_21, a_get_21, a_len_22, a_get_22, a_len_23, a_get_23, a_len_24, a_get_24, a_cls_25, a_rf_25_0, a_rf_25_1, a_rf_25_2, a_rf_25_3, a_len_26, a_get_26, a_len_27, a_get_27, a_len_28, a_get_28, a_len_29, a_get_29, a_cls_30, a_rf_30_0, a_rf_30_1, a_len_31, a_get_31, a_len_32, a_get_32, a_len_33, a_get_33, a_cls_34, a_rf_34_1, a_rf_34_3, a_rf_34_4, a_rf_34_5, a_rf_34_6, a_rf_34_8, a_rf_34_9, a_rf_34_11, a_rf_34_12, a_rf_34_21, a_len_35, a_get_35, a_len_36, a_get_36, a_len_37, a_get_37, a_len_38, a_get_38, a_len_39, a_get_39, a_len_40, a_get_40, a_len_42, a_get_42, a_len_43, a_get_43, a_len_44, a_get_44, a_len_1000, a_get_1000, a_len_1002, a_get_1002, l45, f1, f2, ← e1, ← e2, a_push_s, a_push_n, true_and, and_true, true_implies, false_implies, implies_true, not_true_eq_false, not_false_eq_true, e_10, e_01, e_11, e_00, or_true, true_or, or_false, false_or, and_self, false_and, and_false, Bool.false_eq_true, if_true, if_false]
  have wT : ∀ U : aS, (∀ c, c ∉ [4, 5, 6] → U c = T2 c) → shW U 3 (figN T n 1) (figN T n 2) := fun U hU => ⟨h3, by rw [hU 3 (by decide), e2, a_pf_ne _ _ _ (by decide), e1, a_pf_same], by rw [hU 3 (by decide), e2, a_pf_same], hw⟩
  have tT : ∀ U : aS, (∀ c, c ∉ [4, 5, 6] → U c = T2 c) → tx U T n := fun U hU => tx_cells ht (by rw [hU 1 (by decide), r2 1 (by decide)]) (by rw [hU 34 (by decide), r2 34 (by decide)]) (by rw [hU 2 (by decide), r2 2 (by decide)]) (by rw [hU 35 (by decide), r2 35 (by decide)])
  obtain ⟨U, ⟨hU, hU4, hU5⟩, hX1⟩ := lpx (τ := aS) (P := fun i U Q => aX mX3_becomeText 20 [.ref 3, .ref 1, .int (nI i)] [] U G Q) (I := fun i U => (∀ c, c ∉ [4, 5, 6] → U c = T2 c) ∧ (∀ d, d < i → U 4 d = nI (figN T n (3 + d))) ∧ (∀ d, d < i → U 5 d = nI (figN T n (4 + D + d)))) (Nat.zero_le D) (fun i U _ hi hI => by
    obtain ⟨hU, hU4, hU5⟩ := hI
    obtain ⟨V, eV⟩ : ∃ V, V = a_pf U (3 + 1) i (nI (figN T n (3 + i))) := ⟨_, rfl⟩
    have hV : ∀ c, c ∉ [4, 5, 6] → V c = T2 c := fun c hc => by
      rw [eV, a_pf_row _ _ _ (by simp only [List.mem_cons, List.not_mem_nil, or_false, not_or] at hc; omega), hU c hc]
    obtain ⟨W, eW⟩ : ∃ W, W = a_pf V (3 + 2) i (nI (figN T n (4 + D + i))) := ⟨_, rfl⟩
    have hiD : i < figN T n 1 * figN T n 2 := by rw [eD']; exact hi
    refine ⟨W, ⟨fun c hc => ?_, fun d hd => ?_, fun d hd => ?_⟩, fun Q => ?_⟩
    · rw [eW, a_pf_row _ _ _ (by simp only [List.mem_cons, List.not_mem_nil, or_false, not_or] at hc; omega), hV c hc]
    · rw [eW, a_pf_row _ _ _ (by decide), eV]
      by_cases q : d = i
      · subst q; rw [a_pf_same]
      · rw [a_pf_ne _ _ _ q]; exact hU4 d (by omega)
    · rw [eW]
      by_cases q : d = i
      · subst q; rw [a_pf_same]
      · rw [a_pf_ne _ _ _ q, eV, a_pf_row _ _ _ (by decide)]; exact hU5 d (by omega)
    · have e4 : (4 : Int32) + nI D + nI i = nI (4 + D + i) := by rw [show (4 : Int32) = nI 4 from rfl, nI_add, nI_add]
      refine (x_X3_becomeText_20 _ _ _ _ G Q).trans ?_
      simp only [a_cls_0, a_rf_0_0, a_rf_0_1, a_rf_0_2, a_rf_0_3, a_rf_0_4, a_rf_0_5, a_rf_0_6, a_rf_0_7, a_rf_0_8, a_cls_1, a_rf_1_0, a_len_2, a_get_2, a_cls_3, a_rf_3_0, a_rf_3_1, a_rf_3_2, a_len_4, a_get_4, a_len_5, a_get_5, a_len_6, a_get_6, a_cls_7, a_rf_7_0, a_rf_7_1, a_rf_7_2, a_len_8, a_get_8, a_len_9, a_get_9, a_len_10, a_get_10, a_cls_11, a_rf_11_0, a_rf_11_1, a_rf_11_2, a_len_12, a_get_12, a_len_13, a_get_13, a_len_14, a_get_14, a_cls_15, a_rf_15_0, a_rf_15_1, a_rf_15_2, a_len_16, a_get_16, a_len_17, a_get_17, a_len_18, a_get_18, a_cls_19, a_rf_19_0, a_rf_19_1, a_rf_19_2, a_rf_19_3, a_rf_19_4, a_len_20, a_get_20, a_len_21, a_get_21, a_len_22, a_get_22, a_len_23, a_get_23, a_len_24, a_get_24, a_cls_25, a_rf_25_0, a_rf_25_1, a_rf_25_2, a_rf_25_3, a_len_26, a_get_26, a_len_27, a_get_27, a_len_28, a_get_28, a_len_29, a_get_29, a_cls_30, a_rf_30_0, a_rf_30_1, a_len_31, a_get_31, a_len_32, a_get_32, a_len_33, a_get_33, a_cls_34, a_rf_34_1, a_rf_34_3, a_rf_34_4, a_rf_34_5, a_rf_34_6, a_rf_34_8, a_rf_34_9, a_rf_34_11, a_rf_34_12, a_rf_34_21, a_len_35, a_get_35, a_len_36, a_get_36, a_len_37, a_get_37, a_len_38, a_get_38, a_len_39, a_get_39, a_len_40, a_get_40, a_len_42, a_get_42, a_len_43, a_get_43, a_len_44, a_get_44, a_len_1000, a_get_1000, a_len_1002, a_get_1002, l45, c_dots (wT U hU), eD', x_X3_becomeText_25, nle rfl hi (show D < 2147483648 by omega), x_X3_becomeText_28, add_3, c_figureAt5 (tT U hU) (show 3 + i < 1000 by omega), x_X3_becomeText_38, c_setGrey (wT U hU) hiD, ← eV, x_X3_becomeText_41, c_dots (wT V hV), x_X3_becomeText_50, e4, c_figureAt5 (tT V hV) (show 4 + D + i < 1000 by omega), x_X3_becomeText_56, c_setGrey (wT V hV) hiD, e_10, ← eW, x_X3_becomeText_59, nI_1, a_push_s, a_push_n, true_and, and_true, true_implies, false_implies, implies_true, not_true_eq_false, not_false_eq_true, e_10, e_01, e_11, e_00, or_true, true_or, or_false, false_or, and_self, false_and, and_false, Bool.false_eq_true, if_true, if_false]) T2 ⟨fun _ _ => rfl, fun d hd => absurd hd (by omega), fun d hd => absurd hd (by omega)⟩
  have mid : ∀ Q, aX mX3_becomeText 20 [.ref 3, .ref 1, .int (nI D)] [] U G Q ↔ aX mX3_becomeText 67 [.ref 3, .ref 1, .int 0] [] U G Q := fun Q => by
    rw [x_X3_becomeText_20]
    simp only [a_cls_0, a_rf_0_0, a_rf_0_1, a_rf_0_2, a_rf_0_3, a_rf_0_4, a_rf_0_5, a_rf_0_6, a_rf_0_7, a_rf_0_8, a_cls_1, a_rf_1_0, a_len_2, a_get_2, a_cls_3, a_rf_3_0, a_rf_3_1, a_rf_3_2, a_len_4, a_get_4, a_len_5, a_get_5, a_len_6, a_get_6, a_cls_7, a_rf_7_0, a_rf_7_1, a_rf_7_2, a_len_8, a_get_8, a_len_9, a_get_9, a_len_10, a_get_10, a_cls_11, a_rf_11_0, a_rf_11_1, a_rf_11_2, a_len_12, a_get_12, a_len_13, a_get_13, a_len_14, a_get_14, a_cls_15, a_rf_15_0, a_rf_15_1, a_rf_15_2, a_len_16, a_get_16, a_len_17, a_get_17, a_len_18, a_get_18, a_cls_19, a_rf_19_0, a_rf_19_1, a_rf_19_2, a_rf_19_3, a_rf_19_4, a_len_20, a_get_20, a_len_21, a_get_21, a_len_22, a_get_22, a_len_23, a_get_23, a_len_24, a_get_24, a_cls_25, a_rf_25_0, a_rf_25_1, a_rf_25_2, a_rf_25_3, a_len_26, a_get_26, a_len_27, a_get_27, a_len_28, a_get_28, a_len_29, a_get_29, a_cls_30, a_rf_30_0, a_rf_30_1, a_len_31, a_get_31, a_len_32, a_get_32, a_len_33, a_get_33, a_cls_34, a_rf_34_1, a_rf_34_3, a_rf_34_4, a_rf_34_5, a_rf_34_6, a_rf_34_8, a_rf_34_9, a_rf_34_11, a_rf_34_12, a_rf_34_21, a_len_35, a_get_35, a_len_36, a_get_36, a_len_37, a_get_37, a_len_38, a_get_38, a_len_39, a_get_39, a_len_40, a_get_40, a_len_42, a_get_42, a_len_43, a_get_43, a_len_44, a_get_44, a_len_1000, a_get_1000, a_len_1002, a_get_1002, l45, c_dots (wT U hU), eD', x_X3_becomeText_25, yle rfl (Nat.le_refl D) (show D < 2147483648 by omega), x_X3_becomeText_65, a_push_s, a_push_n, true_and, and_true, true_implies, false_implies, implies_true, not_true_eq_false, not_false_eq_true, e_10, e_01, e_11, e_00, or_true, true_or, or_false, false_or, and_self, false_and, and_false, Bool.false_eq_true, if_true, if_false]
  obtain ⟨V, ⟨hV, hV6⟩, hX2⟩ := lpx (τ := aS) (P := fun i V Q => aX mX3_becomeText 67 [.ref 3, .ref 1, .int (nI i)] [] V G Q) (I := fun i V => (∀ c, c ≠ 6 → V c = U c) ∧ (∀ g, g < i → V 6 g = 0)) (Nat.zero_le 10) (fun i V _ hi hI => by
    obtain ⟨hV, hV6⟩ := hI
    refine ⟨a_pf V (3 + 3) i 0, ⟨fun c hc => by rw [a_pf_row _ _ _ hc, hV c hc], fun g hg => ?_⟩, fun Q => ?_⟩
    · by_cases q : g = i
      · subst q; rw [a_pf_same]
      · rw [a_pf_ne _ _ _ q]; exact hV6 g (by omega)
    · refine (x_X3_becomeText_67 _ _ _ _ G Q).trans ?_
      simp only [nle (c := 10) (n := 10) rfl hi (by omega), x_X3_becomeText_73, a_cls_0, a_rf_0_0, a_rf_0_1, a_rf_0_2, a_rf_0_3, a_rf_0_4, a_rf_0_5, a_rf_0_6, a_rf_0_7, a_rf_0_8, a_cls_1, a_rf_1_0, a_len_2, a_get_2, a_cls_3, a_rf_3_0, a_rf_3_1, a_rf_3_2, a_len_4, a_get_4, a_len_5, a_get_5, a_len_6, a_get_6, a_cls_7, a_rf_7_0, a_rf_7_1, a_rf_7_2, a_len_8, a_get_8, a_len_9, a_get_9, a_len_10, a_get_10, a_cls_11, a_rf_11_0, a_rf_11_1, a_rf_11_2, a_len_12, a_get_12, a_len_13, a_get_13, a_len_14, a_get_14, a_cls_15, a_rf_15_0, a_rf_15_1, a_rf_15_2, a_len_16, a_get_16, a_len_17, a_get_17, a_len_18, a_get_18, a_cls_19, a_rf_19_0, a_rf_19_1, a_rf_19_2, a_rf_19_3, a_rf_19_4, a_len_20, a_get_20, a_len_21, a_get_21, a_len_22, a_get_22, a_len_23, a_get_23, a_len_24, a_get_24, a_cls_25, a_rf_25_0, a_rf_25_1, a_rf_25_2, a_rf_25_3, a_len_26, a_get_26, a_len_27, a_get_27, a_len_28, a_get_28, a_len_29, a_get_29, a_cls_30, a_rf_30_0, a_rf_30_1, a_len_31, a_get_31, a_len_32, a_get_32, a_len_33, a_get_33, a_cls_34, a_rf_34_1, a_rf_34_3, a_rf_34_4, a_rf_34_5, a_rf_34_6, a_rf_34_8, a_rf_34_9, a_rf_34_11, a_rf_34_12, a_rf_34_21, a_len_35, a_get_35, a_len_36, a_get_36, a_len_37, a_get_37, a_len_38, a_get_38, a_len_39, a_get_39, a_len_40, a_get_40, a_len_42, a_get_42, a_len_43, a_get_43, a_len_44, a_get_44, a_len_1000, a_get_1000, a_len_1002, a_get_1002, l45, c_setShown h3 (show i ≤ 9 by omega), x_X3_becomeText_79, nI_1, a_push_s, a_push_n, true_and, and_true, true_implies, false_implies, implies_true, not_true_eq_false, not_false_eq_true, e_10, e_01, e_11, e_00, or_true, true_or, or_false, false_or, and_self, false_and, and_false, Bool.false_eq_true, if_true, if_false]) U ⟨fun _ _ => rfl, fun g hg => absurd hg (by omega)⟩
  obtain ⟨W, eW⟩ : ∃ W, W = a_pf (a_pf (a_pf V 3 5 0) 3 6 1) 3 7 1 := ⟨_, rfl⟩
  obtain ⟨Z, eZ⟩ : ∃ Z, Z = a_pf (a_pf W 3 8 0) 3 9 0 := ⟨_, rfl⟩
  have rZ : ∀ c, c ≠ 3 → Z c = V c := fun c hc => by rw [eZ, a_pf_row _ _ _ hc, a_pf_row _ _ _ hc, eW, a_pf_row _ _ _ hc, a_pf_row _ _ _ hc, a_pf_row _ _ _ hc]
  have v3 : V 3 = T2 3 := by rw [hV 3 (by decide), hU 3 (by decide)]
  refine ⟨Z, fun c hc => ?_, fun p hp => ?_, fun Q => ?_⟩
  · simp only [List.mem_cons, List.not_mem_nil, or_false, not_or] at hc
    rw [rZ c (by omega), hV c (by omega), hU c (by simp only [List.mem_cons, List.not_mem_nil, or_false, not_or]; omega), r2 c (by omega)]
  · obtain ⟨p0, p1, p2, p3, ⟨p4, p5, p6⟩, p7, p8, p9⟩ := hp
    rw [← eD] at p2 p3
    rw [show ∀ S' , sh S' 3 p (figN T n 1) (figN T n 2) = sh S' 3 p (figN T n 1) (figN T n 2) from fun _ => rfl]
    refine ⟨h3, ?_, ?_, fun d hd => ?_, fun d hd => ?_, ⟨?_, ?_, ?_⟩, fun g hg => ?_, ?_, ?_⟩
    · rw [p0]; simp [eZ, eW, a_pf, a_wr, upd, v3, e2, e1]
    · rw [p1]; simp [eZ, eW, a_pf, a_wr, upd, v3, e2]
    · rw [eD'] at hd
      rw [rZ _ (by decide), hV _ (by decide), hU4 d hd, p2 d hd]
    · rw [eD'] at hd
      rw [rZ _ (by decide), hV _ (by decide), hU5 d hd, p3 d hd]
    · rw [p4]; simp [eZ, eW, a_pf, a_wr, upd]
    · rw [p5]; simp [eZ, eW, a_pf, a_wr, upd]
    · rw [p6]; simp [eZ, eW, a_pf, a_wr, upd]
    · rw [rZ _ (by decide), hV6 g (by omega), p7 g hg]
    · rw [p8]; simp [eZ, a_pf, a_wr, upd]
    · rw [p9]; simp [eZ, a_pf, a_wr, upd]
  · refine (pre Q).trans ((hX1 Q).trans ((mid Q).trans ((hX2 Q).trans ?_)))
    rw [x_X3_becomeText_67]
    simp only [yle (c := 10) (n := 10) rfl (Nat.le_refl 10) (show 10 < 2147483648 by omega), x_X3_becomeText_85, x_X3_becomeText_92, x_X3_becomeText_98, a_cls_0, a_rf_0_0, a_rf_0_1, a_rf_0_2, a_rf_0_3, a_rf_0_4, a_rf_0_5, a_rf_0_6, a_rf_0_7, a_rf_0_8, a_cls_1, a_rf_1_0, a_len_2, a_get_2, a_cls_3, a_rf_3_0, a_rf_3_1, a_rf_3_2, a_len_4, a_get_4, a_len_5, a_get_5, a_len_6, a_get_6, a_cls_7, a_rf_7_0, a_rf_7_1, a_rf_7_2, a_len_8, a_get_8, a_len_9, a_get_9, a_len_10, a_get_10, a_cls_11, a_rf_11_0, a_rf_11_1, a_rf_11_2, a_len_12, a_get_12, a_len_13, a_get_13, a_len_14, a_get_14, a_cls_15, a_rf_15_0, a_rf_15_1, a_rf_15_2, a_len_16, a_get_16, a_len_17, a_get_17, a_len_18, a_get_18, a_cls_19, a_rf_19_0, a_rf_19_1, a_rf_19_2, a_rf_19_3, a_rf_19_4, a_len_20, a_get_20, a_len_21, a_get_21, a_len_22, a_get_22, a_len_23, a_get_23, a_len_24, a_get_24, a_cls_25, a_rf_25_0, a_rf_25_1, a_rf_25_2, a_rf_25_3, a_len_26, a_get_26, a_len_27, a_get_27, a_len_28, a_get_28, a_len_29, a_get_29, a_cls_30, a_rf_30_0, a_rf_30_1, a_len_31, a_get_31, a_len_32, a_get_32, a_len_33, a_get_33, a_cls_34, a_rf_34_1, a_rf_34_3, a_rf_34_4, a_rf_34_5, a_rf_34_6, a_rf_34_8, a_rf_34_9, a_rf_34_11, a_rf_34_12, a_rf_34_21, a_len_35, a_get_35, a_len_36, a_get_36, a_len_37, a_get_37, a_len_38, a_get_38, a_len_39, a_get_39, a_len_40, a_get_40, a_len_42, a_get_42, a_len_43, a_get_43, a_len_44, a_get_44, a_len_1000, a_get_1000, a_len_1002, a_get_1002, l45, c_setRule h3, ← eW, c_setLie h3, ← eZ, a_push_s, a_push_n, true_and, and_true, true_implies, false_implies, implies_true, not_true_eq_false, not_false_eq_true, e_10, e_01, e_11, e_00, or_true, true_or, or_false, false_or, and_self, false_and, and_false, Bool.false_eq_true, if_true, if_false]
theorem flt_ok {T : Nat → Nat} {n : Nat} (h : isFlt T n (-9)) (hn : n ≤ 56) : (1 ≤ figN T n 1 ∧ figN T n 1 ≤ 5) ∧ (1 ≤ figN T n 2 ∧ figN T n 2 ≤ 5) := by
  have hd := dotN_le T n
  rcases h with ⟨m, h1, h3, h4, h5⟩ | ⟨h1, h5⟩
  · exfalso
    have := congrArg Int32.toInt h5
    rw [n_i (by omega), ti_m9] at this
    omega
  · have a := ok_edge (h1 1 (by omega)) (by omega) (by omega)
    have b := ok_edge (h1 2 (by omega)) (by omega) (by omega)
    exact ⟨⟨a.1, a.2.1⟩, b.1, b.2.1⟩
theorem p_leaf {X N : Nat → Int32} {S : aS} {G : aG} (hI : InvE X N S G) : Pr X N mX5_leaf mX6_leaf [.ref 0] [.ref 34, .null] S G := by
  have hI0 := hI
  obtain ⟨w, h, T, nt, nd, b0, b1, ns, hi⟩ := hI
  have ht := hi.2.1
  obtain ⟨r, hr, hXF⟩ := c_firstFault ht G
  by_cases c : r = -9
  · subst c
    have hw := flt_ok hr ht.1
    obtain ⟨Sb, rb, sb, hXB⟩ := c_becomeText ht hw G
    obtain ⟨Sc, ec_⟩ : ∃ Sc, Sc = a_pf (a_pf Sb 25 4 0) 0 9 0 := ⟨_, rfl⟩
    have rc : ∀ c, c ∉ [0, 3, 4, 5, 6, 25] → Sc c = S c := fun c hc => by
      simp only [List.mem_cons, List.not_mem_nil, or_false, not_or] at hc
      rw [ec_, a_pf_row _ _ _ (by omega), a_pf_row _ _ _ (by omega), rb c (by simp only [List.mem_cons, List.not_mem_nil, or_false, not_or]; omega)]
    have rc3 : ∀ c, 3 ≤ c → c ≤ 6 → Sc c = Sb c := fun c h1 h2 => by rw [ec_, a_pf_row _ _ _ (by omega), a_pf_row _ _ _ (by omega)]
    obtain ⟨Sx, ex⟩ : ∃ Sx, Sx = a_pf Sc 34 0 0 := ⟨_, rfl⟩
    have rx : ∀ c, c ≠ 34 → Sx c = Sc c := fun c hc => by rw [ex, a_pf_row _ _ _ hc]
    have tX : tx Sx T nt := tx_cells ht (by rw [rx 1 (by decide), rc 1 (by decide)]) (by rw [ex, a_pf_ne _ _ _ (by decide), rc 34 (by decide)]) (by rw [rx 2 (by decide), rc 2 (by decide)]) (by rw [rx 35 (by decide), rc 35 (by decide)])
    obtain ⟨r2, Sr, hr2, rr2, hP, hXR⟩ := c_readLeaf tX G
    have e9 := isFlt_one hr2 hr
    subst e9
    have hP := hP rfl
    obtain ⟨Sl, el⟩ : ∃ Sl, Sl = cpR Sr 37 (Sr 36) 0 52 := ⟨_, rfl⟩
    obtain ⟨So, eo⟩ : ∃ So, So = a_pf (a_pf (cpR Sl 37 (fun _ => 0) 52 15) 37 53 1) 37 54 1 := ⟨_, rfl⟩
    obtain ⟨S2, e2⟩ : ∃ S2, S2 = a_pf (a_pf (a_pf So 34 7 0) 41 0 0) 41 1 0 := ⟨_, rfl⟩
    have k37 : S2 37 = So 37 := by rw [e2, a_pf_row _ _ _ (by decide), a_pf_row _ _ _ (by decide), a_pf_row _ _ _ (by decide)]
    have lo : ∀ j, j < 52 → So 37 j = Sr 36 j := fun j hj => by rw [eo, a_pf_ne _ _ _ (by omega), a_pf_ne _ _ _ (by omega), cpR_out _ _ _ (by omega), el, cpR_in _ _ _ (by omega)]; rfl
    have hi2 : ∀ j, 52 ≤ j → j < 67 → j ≠ 53 → j ≠ 54 → So 37 j = 0 := fun j h1 h2 h3 h4 => by rw [eo, a_pf_ne _ _ _ h4, a_pf_ne _ _ _ h3, cpR_in _ _ _ (by omega)]
    have hdd : dotN T nt ≤ 25 := Nat.mul_le_mul hw.1.2 hw.2.2
    have hQ : rdQ (S2 37) T nt := by
      rw [k37]
      refine ⟨by rw [lo 0 (by omega)]; exact hP.1, by rw [lo 1 (by omega)]; exact hP.2.1, fun d hd => by rw [lo _ (by omega)]; exact hP.2.2.2.1 d hd, fun d hd => by rw [lo _ (by omega)]; exact hP.2.2.2.2 d hd, ⟨hi2 52 (by omega) (by omega) (by omega) (by omega), by rw [eo, a_pf_ne _ _ _ (by decide), a_pf_same], by rw [eo, a_pf_same]⟩, fun g hg => hi2 _ (by omega) (by omega) (by omega) (by omega), hi2 65 (by omega) (by omega) (by omega) (by omega), hi2 66 (by omega) (by omega) (by omega) (by omega)⟩
    have hpN := rdQ_ok hQ hw
    have hsN := sb _ hQ
    have lp1 : ∀ Q, aX mX6_leaf 19 [.ref 34, .int 0] [] Sr G Q ↔ aX mX6_leaf 19 [.ref 34, .int (nI 52)] [] Sl G Q := fun Q => by
      have hl := lp (n := 52) (P := fun j => aX mX6_leaf 19 [.ref 34, .int (nI j)] [] (cpR Sr 37 (Sr 36) 0 j) G Q) (fun j hj => by
        refine (x_X6_leaf_19 _ _ _ G Q).trans ?_
        simp only [nle (c := 52) (n := 52) rfl hj (by omega), x_X6_leaf_25, x_X6_leaf_37, a_cls_0, a_rf_0_0, a_rf_0_1, a_rf_0_2, a_rf_0_3, a_rf_0_4, a_rf_0_5, a_rf_0_6, a_rf_0_7, a_rf_0_8, a_cls_1, a_rf_1_0, a_len_2, a_get_2, a_cls_3, a_rf_3_0, a_rf_3_1, a_rf_3_2, a_len_4, a_get_4, a_len_5, a_get_5, a_len_6, a_get_6, a_cls_7, a_rf_7_0, a_rf_7_1, a_rf_7_2, a_len_8, a_get_8, a_len_9, a_get_9, a_len_10, a_get_10, a_cls_11, a_rf_11_0, a_rf_11_1, a_rf_11_2, a_len_12, a_get_12, a_len_13, a_get_13, a_len_14, a_get_14, a_cls_15, a_rf_15_0, a_rf_15_1, a_rf_15_2, a_len_16, a_get_16, a_len_17, a_get_17, a_len_18, a_get_18, a_cls_19, a_rf_19_0, a_rf_19_1, a_rf_19_2, a_rf_19_3, a_rf_19_4, a_len_20, a_get_20, a_len_21, a_get_21, a_len_22, a_get_22, a_len_23, a_get_23, a_len_24, a_get_24, a_cls_25, a_rf_25_0, a_rf_25_1, a_rf_25_2, a_rf_25_3, a_len_26, a_get_26, a_len_27, a_get_27, a_len_28, a_get_28, a_len_29, a_get_29, a_cls_30, a_rf_30_0, a_rf_30_1, a_len_31, a_get_31, a_len_32, a_get_32, a_len_33, a_get_33, a_cls_34, a_rf_34_1, a_rf_34_3, a_rf_34_4, a_rf_34_5, a_rf_34_6, a_rf_34_8, a_rf_34_9, a_rf_34_11, a_rf_34_12, a_rf_34_21, a_len_35, a_get_35, a_len_36, a_get_36, a_len_37, a_get_37, a_len_38, a_get_38, a_len_39, a_get_39, a_len_40, a_get_40, a_len_42, a_get_42, a_len_43, a_get_43, a_len_44, a_get_44, a_len_1000, a_get_1000, a_len_1002, a_get_1002, l45, ain (show j < 67 by omega) (by omega), tc_n (show j < 2147483648 by omega), cpR_row Sr (Sr 36) 0 j (show 36 ≠ 37 by decide), cpR_succ0, nI_1, show (37 < 45) = True by decide, a_push_s, a_push_n, true_and, and_true, true_implies, false_implies, implies_true, not_true_eq_false, not_false_eq_true, e_10, e_01, e_11, e_00, or_true, true_or, or_false, false_or, and_self, false_and, and_false, Bool.false_eq_true, if_true, if_false])
      rw [cpR_0, ← el] at hl
      exact hl
    have wB : shW (a_pf (a_pf Sb 25 4 0) 0 9 0) 3 (figN T nt 1) (figN T nt 2) := by
      rw [← ec_]
      exact sh_W (sh_cells hsN (rc3 3 (by omega) (by omega)) (rc3 4 (by omega) (by omega)) (rc3 5 (by omega) (by omega)) (rc3 6 (by omega) (by omega))) hpN
    refine ⟨.int (nI (figN T nt 1 * figN T nt 2)), Sc, G, S2, G, fun Q => ?_, fun Q => ?_, ?_⟩
    · simp only [x_X5_leaf_0, x_X5_leaf_7, x_X5_leaf_12, x_X5_leaf_15, x_X5_leaf_26, x_X5_leaf_33, x_X5_leaf_38, x_X5_leaf_45, x_X0_forgetAll_0, x_X0_forgetAll_5, a_cls_0, a_rf_0_0, a_rf_0_1, a_rf_0_2, a_rf_0_3, a_rf_0_4, a_rf_0_5, a_rf_0_6, a_rf_0_7, a_rf_0_8, a_cls_1, a_rf_1_0, a_len_2, a_get_2, a_cls_3, a_rf_3_0, a_rf_3_1, a_rf_3_2, a_len_4, a_get_4, a_len_5, a_get_5, a_len_6, a_get_6, a_cls_7, a_rf_7_0, a_rf_7_1, a_rf_7_2, a_len_8, a_get_8, a_len_9, a_get_9, a_len_10, a_get_10, a_cls_11, a_rf_11_0, a_rf_11_1, a_rf_11_2, a_len_12, a_get_12, a_len_13, a_get_13, a_len_14, a_get_14, a_cls_15, a_rf_15_0, a_rf_15_1, a_rf_15_2, a_len_16, a_get_16, a_len_17, a_get_17, a_len_18, a_get_18, a_cls_19, a_rf_19_0, a_rf_19_1, a_rf_19_2, a_rf_19_3, a_rf_19_4, a_len_20, a_get_20, a_len_21, a_get_21, a_len_22, a_get_22, a_len_23, a_get_23, a_len_24, a_get_24, a_cls_25, a_rf_25_0, a_rf_25_1, a_rf_25_2, a_rf_25_3, a_len_26, a_get_26, a_len_27, a_get_27, a_len_28, a_get_28, a_len_29, a_get_29, a_cls_30, a_rf_30_0, a_rf_30_1, a_len_31, a_get_31, a_len_32, a_get_32, a_len_33, a_get_33, a_cls_34, a_rf_34_1, a_rf_34_3, a_rf_34_4, a_rf_34_5, a_rf_34_6, a_rf_34_8, a_rf_34_9, a_rf_34_11, a_rf_34_12, a_rf_34_21, a_len_35, a_get_35, a_len_36, a_get_36, a_len_37, a_get_37, a_len_38, a_get_38, a_len_39, a_get_39, a_len_40, a_get_40, a_len_42, a_get_42, a_len_43, a_get_43, a_len_44, a_get_44, a_len_1000, a_get_1000, a_len_1002, a_get_1002, l45, hXF, hXB, c_dots wB, a_push_s, a_push_n, true_and, and_true, true_implies, false_implies, implies_true, not_true_eq_false, not_false_eq_true, e_10, e_01, e_11, e_00, or_true, true_or, or_false, false_or, and_self, false_and, and_false, Bool.false_eq_true, if_true, if_false]
      rw [ec_]
    · have a02 : a_in 0 2 = True := eq_true (by decide)
      have a12 : a_in 1 2 = True := eq_true (by decide)
      rw [x_X6_leaf_0, ← ex]
      simp only [x_X6_leaf_5, x_X6_leaf_9, x_X6_leaf_17, a_cls_0, a_rf_0_0, a_rf_0_1, a_rf_0_2, a_rf_0_3, a_rf_0_4, a_rf_0_5, a_rf_0_6, a_rf_0_7, a_rf_0_8, a_cls_1, a_rf_1_0, a_len_2, a_get_2, a_cls_3, a_rf_3_0, a_rf_3_1, a_rf_3_2, a_len_4, a_get_4, a_len_5, a_get_5, a_len_6, a_get_6, a_cls_7, a_rf_7_0, a_rf_7_1, a_rf_7_2, a_len_8, a_get_8, a_len_9, a_get_9, a_len_10, a_get_10, a_cls_11, a_rf_11_0, a_rf_11_1, a_rf_11_2, a_len_12, a_get_12, a_len_13, a_get_13, a_len_14, a_get_14, a_cls_15, a_rf_15_0, a_rf_15_1, a_rf_15_2, a_len_16, a_get_16, a_len_17, a_get_17, a_len_18, a_get_18, a_cls_19, a_rf_19_0, a_rf_19_1, a_rf_19_2, a_rf_19_3, a_rf_19_4, a_len_20, a_get_20, a_len_21, a_get_21, a_len_22, a_get_22, a_len_23, a_get_23, a_len_24, a_get_24, a_cls_25, a_rf_25_0, a_rf_25_1, a_rf_25_2, a_rf_25_3, a_len_26, a_get_26, a_len_27, a_get_27, a_len_28, a_get_28, a_len_29, a_get_29, a_cls_30, a_rf_30_0, a_rf_30_1, a_len_31, a_get_31, a_len_32, a_get_32, a_len_33, a_get_33, a_cls_34, a_rf_34_1, a_rf_34_3, a_rf_34_4, a_rf_34_5, a_rf_34_6, a_rf_34_8, a_rf_34_9, a_rf_34_11, a_rf_34_12, a_rf_34_21, a_len_35, a_get_35, a_len_36, a_get_36, a_len_37, a_get_37, a_len_38, a_get_38, a_len_39, a_get_39, a_len_40, a_get_40, a_len_42, a_get_42, a_len_43, a_get_43, a_len_44, a_get_44, a_len_1000, a_get_1000, a_len_1002, a_get_1002, l45, hXR, lp1, a_push_s, a_push_n, true_and, and_true, true_implies, false_implies, implies_true, not_true_eq_false, not_false_eq_true, e_10, e_01, e_11, e_00, or_true, true_or, or_false, false_or, and_self, false_and, and_false, Bool.false_eq_true, if_true, if_false]
      rw [x_X6_leaf_19]
      simp only [yle (c := 52) (n := 52) rfl (Nat.le_refl 52) (show 52 < 2147483648 by omega), x_X6_leaf_43, x_X6_leaf_50, x_X6_leaf_55, x_X6_leaf_62, x_X6_leaf_69, x_X6_leaf_76, a_cls_0, a_rf_0_0, a_rf_0_1, a_rf_0_2, a_rf_0_3, a_rf_0_4, a_rf_0_5, a_rf_0_6, a_rf_0_7, a_rf_0_8, a_cls_1, a_rf_1_0, a_len_2, a_get_2, a_cls_3, a_rf_3_0, a_rf_3_1, a_rf_3_2, a_len_4, a_get_4, a_len_5, a_get_5, a_len_6, a_get_6, a_cls_7, a_rf_7_0, a_rf_7_1, a_rf_7_2, a_len_8, a_get_8, a_len_9, a_get_9, a_len_10, a_get_10, a_cls_11, a_rf_11_0, a_rf_11_1, a_rf_11_2, a_len_12, a_get_12, a_len_13, a_get_13, a_len_14, a_get_14, a_cls_15, a_rf_15_0, a_rf_15_1, a_rf_15_2, a_len_16, a_get_16, a_len_17, a_get_17, a_len_18, a_get_18, a_cls_19, a_rf_19_0, a_rf_19_1, a_rf_19_2, a_rf_19_3, a_rf_19_4, a_len_20, a_get_20, a_len_21, a_get_21, a_len_22, a_get_22, a_len_23, a_get_23, a_len_24, a_get_24, a_cls_25, a_rf_25_0, a_rf_25_1, a_rf_25_2, a_rf_25_3, a_len_26, a_get_26, a_len_27, a_get_27, a_len_28, a_get_28, a_len_29, a_get_29, a_cls_30, a_rf_30_0, a_rf_30_1, a_len_31, a_get_31, a_len_32, a_get_32, a_len_33, a_get_33, a_cls_34, a_rf_34_1, a_rf_34_3, a_rf_34_4, a_rf_34_5, a_rf_34_6, a_rf_34_8, a_rf_34_9, a_rf_34_11, a_rf_34_12, a_rf_34_21, a_len_35, a_get_35, a_len_36, a_get_36, a_len_37, a_get_37, a_len_38, a_get_38, a_len_39, a_get_39, a_len_40, a_get_40, a_len_42, a_get_42, a_len_43, a_get_43, a_len_44, a_get_44, a_len_1000, a_get_1000, a_len_1002, a_get_1002, l45, c_openRule (r := 37) (Or.inr (Or.inl rfl)), ← eo, a02, a12, tc_0, tc_1, ← e2, c_dotsOf (r := 37) (Or.inr (Or.inl rfl)) hQ.1 hQ.2.1, a_push_s, a_push_n, true_and, and_true, true_implies, false_implies, implies_true, not_true_eq_false, not_false_eq_true, e_10, e_01, e_11, e_00, or_true, true_or, or_false, false_or, and_self, false_and, and_false, Bool.false_eq_true, if_true, if_false]
    · have z : ∀ c, c ∉ [34, 36, 37, 41] → S2 c = Sc c := fun c hc => by
        simp only [List.mem_cons, List.not_mem_nil, or_false, not_or] at hc
        rw [e2, a_pf_row _ _ _ (by omega), a_pf_row _ _ _ (by omega), a_pf_row _ _ _ (by omega), eo, a_pf_row _ _ _ (by omega), a_pf_row _ _ _ (by omega), cpR_row _ _ _ _ (by omega), el, cpR_row _ _ _ _ (by omega), rr2 c (by omega), rx c (by omega)]
      have ec : ∀ c, c ∉ [0, 3, 4, 5, 6, 25, 34, 36, 37, 41] → S2 c = S c := fun c hc => by
        simp only [List.mem_cons, List.not_mem_nil, or_false, not_or] at hc
        rw [z c (by simp only [List.mem_cons, List.not_mem_nil, or_false, not_or]; omega), rc c (by simp only [List.mem_cons, List.not_mem_nil, or_false, not_or]; omega)]
      have e34 : ∀ i, i ∉ [0, 7] → S2 34 i = S 34 i := fun i hi => by
        simp only [List.mem_cons, List.not_mem_nil, or_false, not_or] at hi
        rw [e2, a_pf_row _ _ _ (by decide), a_pf_row _ _ _ (by decide), a_pf_ne _ _ _ (by omega), eo, a_pf_row _ _ _ (by decide), a_pf_row _ _ _ (by decide), cpR_row _ _ _ _ (by decide), el, cpR_row _ _ _ _ (by decide), rr2 34 (by decide), ex, a_pf_ne _ _ _ (by omega), rc 34 (by decide)]
      obtain ⟨h1, h2, h3, h4, h5, h6, h7, h8⟩ := hi
      refine ⟨figN T nt 1, figN T nt 2, T, nt, 0, 0, 0, ns, ⟨hpN, ?_⟩, tx_cells h2 (by rw [ec 1 (by decide)]) (e34 2 (by decide)) (ec 2 (by decide)) (ec 35 (by decide)), ⟨by omega, ?_, ?_, fun i hi => absurd hi (by omega)⟩, ⟨⟨by omega, by omega⟩, ?_, ⟨?_, ?_⟩, fun hb => absurd hb (by omega), fun hb => absurd hb (by omega)⟩, sn_cells h5 (by rw [ec 30 (by decide)]) (e34 10 (by decide)) (ec 31 (by decide)) (ec 42 (by decide)) (ec 32 (by decide)) (ec 43 (by decide)), h6, by rw [ec 1000 (by decide)]; exact h7, by rw [ec 1001 (by decide)]; exact h8⟩
      · exact sh_cells hsN ((z 3 (by decide)).trans (rc3 3 (by omega) (by omega))) ((z 4 (by decide)).trans (rc3 4 (by omega) (by omega))) ((z 5 (by decide)).trans (rc3 5 (by omega) (by omega))) ((z 6 (by decide)).trans (rc3 6 (by omega) (by omega)))
      · rw [z 25 (by decide), ec_, a_pf_row _ _ _ (by decide), a_pf_same, nI_0]
      · rw [e2, a_pf_row _ _ _ (by decide), a_pf_row _ _ _ (by decide), a_pf_same, nI_0]
      · rw [z 0 (by decide), ec_, a_pf_same]; rfl
      · rw [e2, a_pf_ne _ _ _ (by decide), a_pf_same, nI_0]
      · rw [e2, a_pf_same, nI_0]
  · have tX : tx (a_pf S 34 0 0) T nt := tx_cells ht (by rw [a_pf_row _ _ _ (by decide)]) (a_pf_ne _ _ _ (by decide)) (a_pf_row _ _ _ (by decide)) (a_pf_row _ _ _ (by decide))
    obtain ⟨r2, Sr, hr2, rr2, -, hXR⟩ := c_readLeaf tX G
    have e9 := isFlt_one hr2 hr
    subst e9
    refine Pr_q hI0 (.int (-3)) S Sr (scr_refl S) (scr_trans (scr_rw (rw6_pf S 0 (Or.inl rfl))) (scr_rt (rt6_36 rr2))) (fun Q => ?_) (fun Q => ?_)
    · simp only [x_X5_leaf_0, x_X5_leaf_7, x_X5_leaf_12, a_cls_0, a_rf_0_0, a_rf_0_1, a_rf_0_2, a_rf_0_3, a_rf_0_4, a_rf_0_5, a_rf_0_6, a_rf_0_7, a_rf_0_8, a_cls_1, a_rf_1_0, a_len_2, a_get_2, a_cls_3, a_rf_3_0, a_rf_3_1, a_rf_3_2, a_len_4, a_get_4, a_len_5, a_get_5, a_len_6, a_get_6, a_cls_7, a_rf_7_0, a_rf_7_1, a_rf_7_2, a_len_8, a_get_8, a_len_9, a_get_9, a_len_10, a_get_10, a_cls_11, a_rf_11_0, a_rf_11_1, a_rf_11_2, a_len_12, a_get_12, a_len_13, a_get_13, a_len_14, a_get_14, a_cls_15, a_rf_15_0, a_rf_15_1, a_rf_15_2, a_len_16, a_get_16, a_len_17, a_get_17, a_len_18, a_get_18, a_cls_19, a_rf_19_0, a_rf_19_1, a_rf_19_2, a_rf_19_3, a_rf_19_4, a_len_20, a_get_20, a_len_21, a_get_21, a_len_22, a_get_22, a_len_23, a_get_23, a_len_24, a_get_24, a_cls_25, a_rf_25_0, a_rf_25_1, a_rf_25_2, a_rf_25_3, a_len_26, a_get_26, a_len_27, a_get_27, a_len_28, a_get_28, a_len_29, a_get_29, a_cls_30, a_rf_30_0, a_rf_30_1, a_len_31, a_get_31, a_len_32, a_get_32, a_len_33, a_get_33, a_cls_34, a_rf_34_1, a_rf_34_3, a_rf_34_4, a_rf_34_5, a_rf_34_6, a_rf_34_8, a_rf_34_9, a_rf_34_11, a_rf_34_12, a_rf_34_21, a_len_35, a_get_35, a_len_36, a_get_36, a_len_37, a_get_37, a_len_38, a_get_38, a_len_39, a_get_39, a_len_40, a_get_40, a_len_42, a_get_42, a_len_43, a_get_43, a_len_44, a_get_44, a_len_1000, a_get_1000, a_len_1002, a_get_1002, l45, hXF, c, a_push_s, a_push_n, true_and, and_true, true_implies, false_implies, implies_true, not_true_eq_false, not_false_eq_true, e_10, e_01, e_11, e_00, or_true, true_or, or_false, false_or, and_self, false_and, and_false, Bool.false_eq_true, if_true, if_false]
    · simp only [x_X6_leaf_0, x_X6_leaf_5, x_X6_leaf_9, x_X6_leaf_14, a_cls_0, a_rf_0_0, a_rf_0_1, a_rf_0_2, a_rf_0_3, a_rf_0_4, a_rf_0_5, a_rf_0_6, a_rf_0_7, a_rf_0_8, a_cls_1, a_rf_1_0, a_len_2, a_get_2, a_cls_3, a_rf_3_0, a_rf_3_1, a_rf_3_2, a_len_4, a_get_4, a_len_5, a_get_5, a_len_6, a_get_6, a_cls_7, a_rf_7_0, a_rf_7_1, a_rf_7_2, a_len_8, a_get_8, a_len_9, a_get_9, a_len_10, a_get_10, a_cls_11, a_rf_11_0, a_rf_11_1, a_rf_11_2, a_len_12, a_get_12, a_len_13, a_get_13, a_len_14, a_get_14, a_cls_15, a_rf_15_0, a_rf_15_1, a_rf_15_2, a_len_16, a_get_16, a_len_17, a_get_17, a_len_18, a_get_18, a_cls_19, a_rf_19_0, a_rf_19_1, a_rf_19_2, a_rf_19_3, a_rf_19_4, a_len_20, a_get_20, a_len_21, a_get_21, a_len_22, a_get_22, a_len_23, a_get_23, a_len_24, a_get_24, a_cls_25, a_rf_25_0, a_rf_25_1, a_rf_25_2, a_rf_25_3, a_len_26, a_get_26, a_len_27, a_get_27, a_len_28, a_get_28, a_len_29, a_get_29, a_cls_30, a_rf_30_0, a_rf_30_1, a_len_31, a_get_31, a_len_32, a_get_32, a_len_33, a_get_33, a_cls_34, a_rf_34_1, a_rf_34_3, a_rf_34_4, a_rf_34_5, a_rf_34_6, a_rf_34_8, a_rf_34_9, a_rf_34_11, a_rf_34_12, a_rf_34_21, a_len_35, a_get_35, a_len_36, a_get_36, a_len_37, a_get_37, a_len_38, a_get_38, a_len_39, a_get_39, a_len_40, a_get_40, a_len_42, a_get_42, a_len_43, a_get_43, a_len_44, a_get_44, a_len_1000, a_get_1000, a_len_1002, a_get_1002, l45, hXR, c, a_push_s, a_push_n, true_and, and_true, true_implies, false_implies, implies_true, not_true_eq_false, not_false_eq_true, e_10, e_01, e_11, e_00, or_true, true_or, or_false, false_or, and_self, false_and, and_false, Bool.false_eq_true, if_true, if_false]
