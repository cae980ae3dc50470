def fg6 (T : Nat → Nat) (n j : Nat) : Int32 := if 48 ≤ letN T n j ∧ letN T n j ≤ 57 then nI (figN T n j) else -9
theorem fig48 : ∀ l, l < 256 → ((0 ≤ (nI l - 48).toInt ∧ (nI l - 48).toInt ≤ 9) = (48 ≤ l ∧ l ≤ 57)) ∧ (48 ≤ l ∧ l ≤ 57 → nI l - 48 = nI (min (l - 48) 9)) := by
  have h : ∀ l, l < 256 → ((decide (0 ≤ (nI l - 48).toInt ∧ (nI l - 48).toInt ≤ 9) = decide (48 ≤ l ∧ l ≤ 57)) ∧ (48 ≤ l ∧ l ≤ 57 → nI l - 48 = nI (min (l - 48) 9))) := by decide +kernel
  intro l hl
  obtain ⟨h1, h2⟩ := h l hl
  exact ⟨propext (decide_eq_decide.mp h1), h2⟩
theorem c_figureAt6 {S : aS} {T : Nat → Nat} {n j : Nat} (ht : tx S T n) (hj : j < 1000) (G : aG) (Q : aQ) : aX mX6_figureAt 0 [.ref 34, .int (nI j), .null] [] S G Q ↔ Q (some (.int (fg6 T n j))) S G := by
  have hl := letN_le ht j
  obtain ⟨hn, -, h1, h2⟩ := ht
  have f := fig48 (letN T n j) (by omega)
  have m9 : (0 ≤ (-9 : Int32).toInt ∧ (-9 : Int32).toInt ≤ 9) = False := by decide
  unfold fg6
  by_cases h : j < n
  · have el : letN T n j = T j := if_pos h
    have f1 := f.1
    have f2 := f.2
    rw [el] at f1 f2 ⊢
    simp only [x_X6_figureAt_0, x_X6_figureAt_8, x_X6_figureAt_20, x_X6_figureAt_22, x_X6_figureAt_32, x_X6_figureAt_35, x_X6_figureAt_39, x_X6_figureAt_41, a_cls_34, a_rf_34_1, a_len_35, a_get_35, h1, nle rfl h (show n < 2147483648 by omega), ain (show j < 56 by omega) (by omega), tc_n (show j < 2147483648 by omega), (h2 j h).2.2, c_in, i2l_i, tl_0, tl_9, f1, a_push_s, a_push_n, true_and, and_true, true_implies, false_implies, implies_true, not_true_eq_false, not_false_eq_true, e_10, e_01, e_11, e_00, or_true, true_or, or_false, false_or, and_self, false_and, and_false, Bool.false_eq_true, if_true, if_false, bq]
    by_cases c : 48 ≤ T j ∧ T j ≤ 57
    · simp only [c, f2 c, figN, el, a_push_s, a_push_n, true_and, and_true, true_implies, false_implies, implies_true, not_true_eq_false, not_false_eq_true, e_10, e_01, e_11, e_00, or_true, true_or, or_false, false_or, and_self, false_and, and_false, Bool.false_eq_true, if_true, if_false]
    · simp only [c, a_push_s, a_push_n, true_and, and_true, true_implies, false_implies, implies_true, not_true_eq_false, not_false_eq_true, e_10, e_01, e_11, e_00, or_true, true_or, or_false, false_or, and_self, false_and, and_false, Bool.false_eq_true, if_true, if_false]
  · have el : letN T n j = 0 := if_neg h
    simp only [x_X6_figureAt_0, x_X6_figureAt_8, x_X6_figureAt_20, x_X6_figureAt_22, x_X6_figureAt_32, x_X6_figureAt_35, x_X6_figureAt_39, x_X6_figureAt_41, a_cls_34, h1, yle rfl (show n ≤ j by omega) (show j < 2147483648 by omega), c_in, i2l_i, tl_0, tl_9, m9, a_push_s, a_push_n, true_and, and_true, true_implies, false_implies, implies_true, not_true_eq_false, not_false_eq_true, e_10, e_01, e_11, e_00, or_true, true_or, or_false, false_or, and_self, false_and, and_false, Bool.false_eq_true, if_true, if_false, bq, el, show ¬ (48 ≤ 0 ∧ 0 ≤ 57) by omega]
theorem tx_36 {S S' : aS} {T : Nat → Nat} {n : Nat} (ht : tx S T n) (h : ∀ c, c ≠ 36 → S' c = S c) : tx S' T n := by
  obtain ⟨h0, h1, h2, h3⟩ := ht
  exact ⟨h0, by rw [h 1 (by decide)]; exact h1, by rw [h 34 (by decide)]; exact h2, fun j hj => by rw [h 2 (by decide), h 35 (by decide)]; exact h3 j hj⟩
/-- what has been read of the dots behind k of them -/
def rdK (S' : aS) (T : Nat → Nat) (n k : Nat) : Prop := S' 36 0 = nI (figN T n 1) ∧ S' 36 1 = nI (figN T n 2) ∧ (∀ d, d < dotN T n → d < k → S' 36 (2 + d) = nI (figN T n (3 + d))) ∧ (∀ d, d < dotN T n → dotN T n + 1 + d < k → S' 36 (27 + d) = nI (figN T n (4 + dotN T n + d)))
theorem ok_fig {T : Nat → Nat} {n j : Nat} (h : okJ T n j) (h3 : 3 ≤ j) (hd : j ≠ 3 + dotN T n) : 48 ≤ letN T n j ∧ letN T n j ≤ 57 := by
  have := h.2
  unfold fitsP at this
  rw [if_neg (by omega), if_neg (by omega), if_neg hd] at this
  exact this.2
theorem ok_B {T : Nat → Nat} {n : Nat} (h : okJ T n (3 + dotN T n)) (hd : 0 < dotN T n ∨ True) : letN T n (3 + dotN T n) = 66 := by
  have := h.2
  unfold fitsP at this
  rw [if_neg (by omega), if_neg (by omega), if_pos rfl] at this
  exact this
theorem ok_edge {T : Nat → Nat} {n j : Nat} (h : okJ T n j) (h1 : 1 ≤ j) (h2 : j ≤ 2) : 1 ≤ figN T n j ∧ figN T n j ≤ 5 ∧ (48 ≤ letN T n j ∧ letN T n j ≤ 57) := by
  have := h.2
  unfold fitsP at this
  rw [if_neg (by omega), if_pos h2] at this
  unfold figN
  omega
theorem no_edge {T : Nat → Nat} {n j : Nat} (h : ¬ okJ T n j) (h1 : 1 ≤ j) (h2 : j ≤ 2) : ¬ (1 ≤ (fg6 T n j).toInt ∧ (fg6 T n j).toInt ≤ 5) := by
  have hle := figN_le T n j
  unfold fg6
  split
  · rename_i c
    rw [n_i (by omega)]
    intro z
    apply h
    refine ⟨?_, ?_⟩
    · rcases Nat.lt_or_ge j n with q | q
      · exact q
      · unfold letN at c; rw [if_neg (by omega)] at c; omega
    · unfold fitsP
      rw [if_neg (by omega), if_pos h2]
      unfold figN at z
      omega
  · rw [ti_m9]; omega
set_option maxHeartbeats 1000000 in
theorem c_readLoop {S : aS} {T : Nat → Nat} {n m : Nat} (ht : tx S T n) (hD : dotN T n ≤ 25) (hr0 : rdK S T n 0) (hm : m ≤ 2 * dotN T n + 1) (hok : ∀ k, k < m → okJ T n (3 + k)) (G : aG) : ∃ (S' : aS) (v : Value × Value), (∀ c, c ≠ 36 → S' c = S c) ∧ rdK S' T n m ∧ ∀ Q, (aX mX6_readLeaf 77 [.ref 34, .int (nI (dotN T n)), .int 0, .null, .null] [] S G Q ↔ aX mX6_readLeaf 77 [.ref 34, .int (nI (dotN T n)), .int (nI m), v.1, v.2] [] S' G Q) := by
  obtain ⟨D, eD⟩ : ∃ D, D = dotN T n := ⟨_, rfl⟩
  have e2 : (2 : Int32) * nI D = nI (2 * D) := pk_mul 2 D
  have key := lpx (τ := aS × Value × Value) (P := fun k t Q => aX mX6_readLeaf 77 [.ref 34, .int (nI D), .int (nI k), t.2.1, t.2.2] [] t.1 G Q) (I := fun k t => (∀ c, c ≠ 36 → t.1 c = S c) ∧ rdK t.1 T n k) (Nat.zero_le m) (fun k t _ hk ht2 => by
    obtain ⟨hc, hr⟩ := ht2
    have htt := tx_36 ht hc
    have okk := hok k hk
    have hkn : 3 + k < n := okk.1
    have hn := ht.1
    by_cases hkD : k = D
    · subst hkD
      refine ⟨(t.1, .int (nI (3 + k)), .int 1), ⟨hc, hr.1, hr.2.1, fun d h1 h2 => hr.2.2.1 d h1 (by omega), fun d h1 h2 => absurd h2 (by omega)⟩, fun Q => ?_⟩
      have eB : T (3 + k) = 66 := by
        have := ok_B (T := T) (n := n) (by rw [← eD]; exact okk) (Or.inr trivial)
        rw [← eD] at this
        unfold letN at this; rwa [if_pos hkn] at this
      have q66 : (nI 66 = 66) = True := by decide
      refine (x_X6_readLeaf_77 _ _ _ _ _ _ G Q).trans ?_
      simp only [e2, nlt2 (show k ≤ 2 * k by omega) (by omega), x_X6_readLeaf_84, add_3, x_X6_readLeaf_93, a_cls_34, htt.2.2.1, nle rfl hkn (show n < 2147483648 by omega), x_X6_readLeaf_101, a_rf_34_1, a_len_35, a_get_35, ain (show 3 + k < 56 by omega) (by omega), tc_n (show 3 + k < 2147483648 by omega), (htt.2.2.2 _ hkn).2.2, eB, q66, x_X6_readLeaf_112, x_X6_readLeaf_135, x_X6_readLeaf_144, x_X6_readLeaf_178, nI_1, a_push_s, a_push_n, true_and, and_true, true_implies, false_implies, implies_true, not_true_eq_false, not_false_eq_true, e_10, e_01, e_11, e_00, or_true, true_or, or_false, false_or, and_self, false_and, and_false, Bool.false_eq_true, if_true, if_false]
    · have hfig := ok_fig okk (by omega) (by rw [← eD]; omega)
      have ef : fg6 T n (3 + k) = nI (figN T n (3 + k)) := if_pos hfig
      have hle := figN_le T n (3 + k)
      have ne9 : (nI (figN T n (3 + k)) = -9) = False := eq_false (by
        intro z
        have := congrArg Int32.toInt z
        rw [n_i (by omega), ti_m9] at this
        omega)
      have neD : (nI k = nI D) = False := eq_false (by rw [nI_eq (by omega) (by omega)]; exact hkD)
      have f6 : ∀ Q, aX mX6_figureAt 0 [.ref 34, .int (nI (3 + k)), .null] [] t.1 G Q ↔ Q (some (.int (nI (figN T n (3 + k))))) t.1 G := fun Q => by rw [c_figureAt6 htt (by omega), ef]
      rcases Nat.lt_or_ge k D with hlt | hge
      · have hI : (∀ c, c ≠ 36 → (a_pf t.1 36 (2 + k) (nI (figN T n (3 + k)))) c = S c) ∧ rdK (a_pf t.1 36 (2 + k) (nI (figN T n (3 + k)))) T n (k + 1) := by
          refine ⟨fun c h => by rw [a_pf_row _ _ _ h]; exact hc c h, by rw [a_pf_ne _ _ _ (by omega)]; exact hr.1, by rw [a_pf_ne _ _ _ (by omega)]; exact hr.2.1, fun d h1 h2 => ?_, fun d h1 h2 => absurd h2 (by omega)⟩
          by_cases hd : d = k
          · subst hd; rw [a_pf_same]
          · rw [a_pf_ne _ _ _ (by omega)]; exact hr.2.2.1 d h1 (by omega)
        refine ⟨(a_pf t.1 36 (2 + k) (nI (figN T n (3 + k))), .int (nI (3 + k)), .int 1), hI, fun Q => ?_⟩
        refine (x_X6_readLeaf_77 _ _ _ _ _ _ G Q).trans ?_
        simp only [e2, nlt2 (show k ≤ 2 * D by omega) (by omega), x_X6_readLeaf_84, neD, add_3, x_X6_readLeaf_120, a_cls_34, f6, x_X6_readLeaf_125, ne9, x_X6_readLeaf_130, x_X6_readLeaf_135, x_X6_readLeaf_144, x_X6_readLeaf_149, nle rfl hlt (show D < 2147483648 by omega), a_rf_34_3, x_X6_readLeaf_158, add_2, x_X6_readLeaf_172, x_X6_readLeaf_177, a_len_36, ain (show 2 + k < 67 by omega) (by omega), tc_n (show 2 + k < 2147483648 by omega), show (36 < 45) = True from eq_true (by decide), x_X6_readLeaf_178, nI_1, a_push_s, a_push_n, true_and, and_true, true_implies, false_implies, implies_true, not_true_eq_false, not_false_eq_true, e_10, e_01, e_11, e_00, or_true, true_or, or_false, false_or, and_self, false_and, and_false, Bool.false_eq_true, if_true, if_false]
      · have e5 : 27 + nI k - nI D - 1 = nI (27 + (k - D - 1)) := by
          rw [add_27, pk_sub (by omega), show nI (27 + k - D) - 1 = nI (27 + k - D - 1) from pk_sub (a := 27 + k - D) (b := 1) (by omega)]
          congr 1; omega
        have hI : (∀ c, c ≠ 36 → (a_pf t.1 36 (27 + (k - D - 1)) (nI (figN T n (3 + k)))) c = S c) ∧ rdK (a_pf t.1 36 (27 + (k - D - 1)) (nI (figN T n (3 + k)))) T n (k + 1) := by
          refine ⟨fun c h => by rw [a_pf_row _ _ _ h]; exact hc c h, by rw [a_pf_ne _ _ _ (by omega)]; exact hr.1, by rw [a_pf_ne _ _ _ (by omega)]; exact hr.2.1, fun d h1 h2 => ?_, fun d h1 h2 => ?_⟩
          · rw [a_pf_ne _ _ _ (by omega)]; exact hr.2.2.1 d h1 (by omega)
          · by_cases hd : d = k - D - 1
            · subst hd; rw [a_pf_same, ← eD, show 4 + D + (k - D - 1) = 3 + k by omega]
            · rw [a_pf_ne _ _ _ (by omega)]; exact hr.2.2.2 d h1 (by omega)
        refine ⟨(a_pf t.1 36 (27 + (k - D - 1)) (nI (figN T n (3 + k))), .int (nI (3 + k)), .int 1), hI, fun Q => ?_⟩
        refine (x_X6_readLeaf_77 _ _ _ _ _ _ G Q).trans ?_
        simp only [e2, nlt2 (show k ≤ 2 * D by omega) (by omega), x_X6_readLeaf_84, neD, add_3, x_X6_readLeaf_120, a_cls_34, f6, x_X6_readLeaf_125, ne9, x_X6_readLeaf_130, x_X6_readLeaf_135, x_X6_readLeaf_144, x_X6_readLeaf_149, yle rfl hge (show k < 2147483648 by omega), a_rf_34_3, x_X6_readLeaf_164, e5, x_X6_readLeaf_172, x_X6_readLeaf_177, a_len_36, ain (show 27 + (k - D - 1) < 67 by omega) (by omega), tc_n (show 27 + (k - D - 1) < 2147483648 by omega), show (36 < 45) = True from eq_true (by decide), x_X6_readLeaf_178, nI_1, a_push_s, a_push_n, true_and, and_true, true_implies, false_implies, implies_true, not_true_eq_false, not_false_eq_true, e_10, e_01, e_11, e_00, or_true, true_or, or_false, false_or, and_self, false_and, and_false, Bool.false_eq_true, if_true, if_false]) (S, .null, .null) ⟨fun _ _ => rfl, hr0⟩
  obtain ⟨t, ⟨h1, h2⟩, h3⟩ := key
  rw [← eD]
  exact ⟨t.1, t.2, h1, h2, h3⟩
/-- the page that a faultless text tells -/
def rdP (S' : aS) (T : Nat → Nat) (n : Nat) : Prop := S' 36 0 = nI (figN T n 1) ∧ S' 36 1 = nI (figN T n 2) ∧ ((1 ≤ figN T n 1 ∧ figN T n 1 ≤ 5) ∧ (1 ≤ figN T n 2 ∧ figN T n 2 ≤ 5)) ∧ (∀ d, d < dotN T n → S' 36 (2 + d) = nI (figN T n (3 + d))) ∧ (∀ d, d < dotN T n → S' 36 (27 + d) = nI (figN T n (4 + dotN T n + d)))
theorem rt6_36 {S S' : aS} (h : ∀ c, c ≠ 36 → S' c = S c) : rt6 S S' := ⟨fun k _ h2 _ _ => h k h2, fun j _ => by rw [h 34 (by decide)]⟩
set_option maxHeartbeats 1000000 in
theorem c_readLeaf {S : aS} {T : Nat → Nat} {n : Nat} (ht : tx S T n) (G : aG) : ∃ (r : Int32) (S' : aS), isFlt T n r ∧ (∀ c, c ≠ 36 → S' c = S c) ∧ (r = -9 → rdP S' T n) ∧ ∀ Q, (aX mX6_readLeaf 0 [.ref 34, .null, .null, .null, .null] [] S G Q ↔ Q (some (.int r)) S' G) := by
  have hn := ht.1
  have h2 := ht.2.2.1
  have m9 : ∀ m : Nat, m < 1000 → nI m ≠ -9 := fun m hm z => by
    have := congrArg Int32.toInt z
    rw [n_i (by omega), ti_m9] at this
    omega
  have a0 : a_in 0 56 = True := eq_true (by decide)
  by_cases k0 : okJ T n 0
  · have l0 : T 0 = 76 := by
      have := k0.2
      unfold fitsP letN at this
      rw [if_pos rfl, if_pos k0.1] at this
      exact this
    have n0 : (nI n = 0) = False := eq_false (nI_ne0 k0.1 (by omega))
    have q76 : (nI 76 = 76) = True := by decide
    have t0 := (ht.2.2.2 0 k0.1).2.2
    have pre : ∀ Q, aX mX6_readLeaf 0 [.ref 34, .null, .null, .null, .null] [] S G Q ↔ aX mX6_readLeaf 22 [.ref 34, .int 0, .null, .null, .null] [] S G Q := fun Q => by
      simp only [x_X6_readLeaf_0, a_cls_34, h2, n0, x_X6_readLeaf_7, a_rf_34_1, a_len_35, a_get_35, a0, tc_0, t0, l0, q76, x_X6_readLeaf_20, a_push_s, a_push_n, true_and, and_true, true_implies, false_implies, implies_true, not_true_eq_false, not_false_eq_true, e_10, e_01, e_11, e_00, or_true, true_or, or_false, false_or, and_self, false_and, and_false, Bool.false_eq_true, if_true, if_false]
    have f1 : ∀ Q, aX mX6_figureAt 0 [.ref 34, .int (0 + 1), .null] [] S G Q ↔ Q (some (.int (fg6 T n 1))) S G := fun Q => c_figureAt6 (j := 1) ht (by omega) G Q
    have c20 : ((2 : Int32) ≤ 0) = False := by decide
    have c21 : ((2 : Int32) ≤ 0 + 1) = False := by decide
    have c22 : ((2 : Int32) ≤ 0 + 1 + 1) = True := by decide
    have a067 : a_in 0 67 = True := eq_true (by decide)
    have a167 : a_in (0 + 1) 67 = True := eq_true (by decide)
    have tc1 : Int32.toNatClampNeg (0 + 1) = 1 := rfl
    obtain ⟨S1, e1⟩ : ∃ S1, S1 = a_pf S 36 0 (fg6 T n 1) := ⟨_, rfl⟩
    have s1 : ∀ c, c ≠ 36 → S1 c = S c := fun c h => by rw [e1, a_pf_row _ _ _ h]
    have g1 : S1 36 0 = fg6 T n 1 := by rw [e1, a_pf_same]
    by_cases k1 : okJ T n 1
    · have w1 := ok_edge k1 (by omega) (by omega)
      have e6 : fg6 T n 1 = nI (figN T n 1) := if_pos w1.2.2
      have i1 : (1 : Int) ≤ (nI (figN T n 1)).toInt ∧ (nI (figN T n 1)).toInt ≤ 5 := by rw [n_i (by omega)]; omega
      have e1' := e1
      have g1' := g1
      rw [e6] at e1' g1'
      have pre1 : ∀ Q, aX mX6_readLeaf 0 [.ref 34, .null, .null, .null, .null] [] S G Q ↔ aX mX6_readLeaf 22 [.ref 34, .int (0 + 1), .null, .null, .null] [] S1 G Q := fun Q => by
        refine (pre Q).trans ((x_X6_readLeaf_22 _ _ _ G Q).trans ?_)
        simp only [c20, x_X6_readLeaf_27, a_cls_34, f1, x_X6_readLeaf_39, a_rf_34_3, a_len_36, a067, tc_0, ← e1', x_X6_readLeaf_40, a_get_36, g1', e6, c_in, i2l_i, tl_1, tl_5, bq_t i1, x_X6_readLeaf_54, x_X6_readLeaf_61, show (36 < 45) = True from eq_true (by decide), a_push_s, a_push_n, true_and, and_true, true_implies, false_implies, implies_true, not_true_eq_false, not_false_eq_true, e_10, e_01, e_11, e_00, or_true, true_or, or_false, false_or, and_self, false_and, and_false, Bool.false_eq_true, if_true, if_false]
      have t1 := tx_36 ht s1
      have f2 : ∀ Q, aX mX6_figureAt 0 [.ref 34, .int (0 + 1 + 1), .null] [] S1 G Q ↔ Q (some (.int (fg6 T n 2))) S1 G := fun Q => c_figureAt6 (j := 2) t1 (by omega) G Q
      obtain ⟨S2, e2⟩ : ∃ S2, S2 = a_pf S1 36 1 (fg6 T n 2) := ⟨_, rfl⟩
      have s2 : ∀ c, c ≠ 36 → S2 c = S c := fun c h => by rw [e2, a_pf_row _ _ _ h, s1 c h]
      have g2 : S2 36 1 = fg6 T n 2 := by rw [e2, a_pf_same]
      by_cases k2 : okJ T n 2
      · have w2 := ok_edge k2 (by omega) (by omega)
        have e7 : fg6 T n 2 = nI (figN T n 2) := if_pos w2.2.2
        have i2 : (1 : Int) ≤ (nI (figN T n 2)).toInt ∧ (nI (figN T n 2)).toInt ≤ 5 := by rw [n_i (by omega)]; omega
        have e2' := e2
        have g2' := g2
        rw [e7] at e2' g2'
        have hr0 : rdK S2 T n 0 := ⟨by rw [e2, a_pf_ne _ _ _ (by decide), g1, e6], by rw [g2, e7], fun d _ h => absurd h (by omega), fun d _ h => absurd h (by omega)⟩
        have hD : dotN T n ≤ 25 := Nat.mul_le_mul w1.2.1 w2.2.1
        have pre2 : ∀ Q, aX mX6_readLeaf 0 [.ref 34, .null, .null, .null, .null] [] S G Q ↔ aX mX6_readLeaf 77 [.ref 34, .int (nI (dotN T n)), .int 0, .null, .null] [] S2 G Q := fun Q => by
          refine (pre1 Q).trans ((x_X6_readLeaf_22 _ _ _ G Q).trans ?_)
          simp only [c21, x_X6_readLeaf_27, a_cls_34, f2, x_X6_readLeaf_39, a_rf_34_3, a_len_36, a167, tc1, ← e2', x_X6_readLeaf_40, a_get_36, g2', e7, c_in, i2l_i, tl_1, tl_5, bq_t i2, x_X6_readLeaf_54, x_X6_readLeaf_61, x_X6_readLeaf_22, c22, x_X6_readLeaf_67, c_dotsOf (r := 36) (Or.inl rfl) hr0.1 hr0.2.1, x_X6_readLeaf_74, show (36 < 45) = True from eq_true (by decide), dotN, a_push_s, a_push_n, true_and, and_true, true_implies, false_implies, implies_true, not_true_eq_false, not_false_eq_true, e_10, e_01, e_11, e_00, or_true, true_or, or_false, false_or, and_self, false_and, and_false, Bool.false_eq_true, if_true, if_false]
        have t2 := tx_36 ht s2
        have em : (2 : Int32) * nI (dotN T n) = nI (2 * dotN T n) := pk_mul 2 _
        have e4 : (4 : Int32) + nI (2 * dotN T n) = nI (4 + 2 * dotN T n) := nI_add 4 _
        rcases least (P := fun k => okJ T n (3 + k)) (2 * dotN T n + 1) with hall | ⟨m, hm, hnk, hok⟩
        · obtain ⟨S3, v, s3, hr3, hX⟩ := c_readLoop t2 hD hr0 (Nat.le_refl _) hall G
          have all : ∀ j, j < 4 + 2 * dotN T n → okJ T n j := fun j hj => by
            rcases Nat.lt_or_ge j 3 with q | q
            · have : j = 0 ∨ j = 1 ∨ j = 2 := by omega
              rcases this with rfl | rfl | rfl
              · exact k0
              · exact k1
              · exact k2
            · have := hall (j - 3) (by omega)
              rwa [show 3 + (j - 3) = j by omega] at this
          have t3 := tx_36 t2 s3
          refine ⟨if n = 4 + 2 * dotN T n then -9 else nI (4 + 2 * dotN T n), S3, Or.inr ⟨all, rfl⟩, fun c h => by rw [s3 c h, s2 c h], fun _ => ⟨hr3.1, hr3.2.1, ⟨⟨w1.1, w1.2.1⟩, w2.1, w2.2.1⟩, fun d hd => hr3.2.2.1 d hd (by omega), fun d hd => hr3.2.2.2 d hd (by omega)⟩, fun Q => ?_⟩
          refine (pre2 Q).trans ((hX Q).trans ?_)
          simp only [x_X6_readLeaf_77, em, ylt2 (show 2 * dotN T n < 2 * dotN T n + 1 by omega) (by omega), x_X6_readLeaf_184, a_cls_34, t3.2.2.1, e4, x_X6_readLeaf_196, x_X6_readLeaf_201, x_X6_readLeaf_206, a_push_s, a_push_n, true_and, and_true, true_implies, false_implies, implies_true, not_true_eq_false, not_false_eq_true, e_10, e_01, e_11, e_00, or_true, true_or, or_false, false_or, and_self, false_and, and_false, Bool.false_eq_true, if_true, if_false]
          by_cases c : n = 4 + 2 * dotN T n
          · rw [if_pos c, ← c]; simp only [a_push_s, a_push_n, true_and, and_true, true_implies, false_implies, implies_true, not_true_eq_false, not_false_eq_true, e_10, e_01, e_11, e_00, or_true, true_or, or_false, false_or, and_self, false_and, and_false, Bool.false_eq_true, if_true, if_false]
          · have : (nI n = nI (4 + 2 * dotN T n)) = False := eq_false (by rw [nI_eq (by omega) (by omega)]; exact c)
            rw [if_neg c]; simp only [this, a_push_s, a_push_n, true_and, and_true, true_implies, false_implies, implies_true, not_true_eq_false, not_false_eq_true, e_10, e_01, e_11, e_00, or_true, true_or, or_false, false_or, and_self, false_and, and_false, Bool.false_eq_true, if_true, if_false]
        · obtain ⟨S3, v, s3, hr3, hX⟩ := c_readLoop t2 hD hr0 (show m ≤ 2 * dotN T n + 1 by omega) hok G
          have t3 := tx_36 t2 s3
          refine ⟨nI (3 + m), S3, Or.inl ⟨3 + m, by omega, fun j hj => ?_, hnk, rfl⟩, fun c h => by rw [s3 c h, s2 c h], fun z => absurd z (m9 _ (by omega)), fun Q => ?_⟩
          · rcases Nat.lt_or_ge j 3 with q | q
            · have : j = 0 ∨ j = 1 ∨ j = 2 := by omega
              rcases this with rfl | rfl | rfl
              · exact k0
              · exact k1
              · exact k2
            · have := hok (j - 3) (by omega)
              rwa [show 3 + (j - 3) = j by omega] at this
          · refine (pre2 Q).trans ((hX Q).trans ?_)
            by_cases hmD : m = dotN T n
            · have hno : ¬ (3 + m < n ∧ T (3 + m) = 66) := fun z => hnk ⟨z.1, by
                unfold fitsP
                rw [if_neg (by omega), if_neg (by omega), if_pos (by omega)]
                unfold letN
                rw [if_pos z.1]
                exact z.2⟩
              simp only [x_X6_readLeaf_77, ← hmD, show (2 : Int32) * nI m = nI (2 * m) from pk_mul 2 m, nlt2 (show m ≤ 2 * m by omega) (by omega), x_X6_readLeaf_84, add_3, x_X6_readLeaf_93, a_cls_34, t3.2.2.1, x_X6_readLeaf_116, x_X6_readLeaf_135, x_X6_readLeaf_142, a_push_s, a_push_n, true_and, and_true, true_implies, false_implies, implies_true, not_true_eq_false, not_false_eq_true, e_10, e_01, e_11, e_00, or_true, true_or, or_false, false_or, and_self, false_and, and_false, Bool.false_eq_true, if_true, if_false]
              rcases Nat.lt_or_ge (3 + m) n with q | q
              · have qT : (nI (T (3 + m)) = 66) = False := eq_false (fun z => hno ⟨q, (nI_eq (b := 66) (by have := (t3.2.2.2 _ q).1; omega) (by omega)).mp z⟩)
                simp only [nle rfl q (show n < 2147483648 by omega), x_X6_readLeaf_101, x_X6_readLeaf_116, x_X6_readLeaf_135, x_X6_readLeaf_142, a_cls_34, a_rf_34_1, a_len_35, a_get_35, ain (show 3 + m < 56 by omega) (by omega), tc_n (show 3 + m < 2147483648 by omega), (t3.2.2.2 _ q).2.2, qT, a_push_s, a_push_n, true_and, and_true, true_implies, false_implies, implies_true, not_true_eq_false, not_false_eq_true, e_10, e_01, e_11, e_00, or_true, true_or, or_false, false_or, and_self, false_and, and_false, Bool.false_eq_true, if_true, if_false]
              · simp only [yle rfl q (show 3 + m < 2147483648 by omega), a_push_s, a_push_n, true_and, and_true, true_implies, false_implies, implies_true, not_true_eq_false, not_false_eq_true, e_10, e_01, e_11, e_00, or_true, true_or, or_false, false_or, and_self, false_and, and_false, Bool.false_eq_true, if_true, if_false]
            · have neD : (nI m = nI (dotN T n)) = False := eq_false (by rw [nI_eq (by omega) (by omega)]; exact hmD)
              have ef : fg6 T n (3 + m) = -9 := if_neg (fun c => hnk ⟨by
                  rcases Nat.lt_or_ge (3 + m) n with q | q
                  · exact q
                  · unfold letN at c; rw [if_neg (by omega)] at c; omega, by
                  unfold fitsP
                  rw [if_neg (by omega), if_neg (by omega), if_neg (by omega)]
                  exact ⟨by omega, c⟩⟩)
              have f6 : ∀ Q, aX mX6_figureAt 0 [.ref 34, .int (nI (3 + m)), .null] [] S3 G Q ↔ Q (some (.int (-9))) S3 G := fun Q => by rw [c_figureAt6 t3 (by omega), ef]
              simp only [x_X6_readLeaf_77, em, nlt2 (show m ≤ 2 * dotN T n by omega) (by omega), x_X6_readLeaf_84, neD, add_3, x_X6_readLeaf_120, a_cls_34, f6, x_X6_readLeaf_125, x_X6_readLeaf_134, x_X6_readLeaf_135, x_X6_readLeaf_142, a_push_s, a_push_n, true_and, and_true, true_implies, false_implies, implies_true, not_true_eq_false, not_false_eq_true, e_10, e_01, e_11, e_00, or_true, true_or, or_false, false_or, and_self, false_and, and_false, Bool.false_eq_true, if_true, if_false]
      · have i2 := no_edge k2 (by omega) (by omega)
        refine ⟨nI 2, S2, Or.inl ⟨2, by omega, fun j hj => ?_, k2, rfl⟩, s2, fun z => absurd z (m9 2 (by omega)), fun Q => ?_⟩
        · have : j = 0 ∨ j = 1 := by omega
          rcases this with rfl | rfl
          · exact k0
          · exact k1
        · refine (pre1 Q).trans ((x_X6_readLeaf_22 _ _ _ G Q).trans ?_)
          simp only [c21, x_X6_readLeaf_27, a_cls_34, f2, x_X6_readLeaf_39, a_rf_34_3, a_len_36, a167, tc1, ← e2, x_X6_readLeaf_40, a_get_36, g2, c_in, i2l_i, tl_1, tl_5, bq_f i2, x_X6_readLeaf_54, x_X6_readLeaf_57, show (36 < 45) = True from eq_true (by decide), a_push_s, a_push_n, true_and, and_true, true_implies, false_implies, implies_true, not_true_eq_false, not_false_eq_true, e_10, e_01, e_11, e_00, or_true, true_or, or_false, false_or, and_self, false_and, and_false, Bool.false_eq_true, if_true, if_false]
          exact Iff.rfl
    · have i1 := no_edge k1 (by omega) (by omega)
      refine ⟨nI 1, S1, Or.inl ⟨1, by omega, fun j hj => ?_, k1, rfl⟩, s1, fun z => absurd z (m9 1 (by omega)), fun Q => ?_⟩
      · rw [show j = 0 by omega]; exact k0
      · refine (pre Q).trans ((x_X6_readLeaf_22 _ _ _ G Q).trans ?_)
        simp only [c20, x_X6_readLeaf_27, a_cls_34, f1, x_X6_readLeaf_39, a_rf_34_3, a_len_36, a067, tc_0, ← e1, x_X6_readLeaf_40, a_get_36, g1, c_in, i2l_i, tl_1, tl_5, bq_f i1, x_X6_readLeaf_54, x_X6_readLeaf_57, show (36 < 45) = True from eq_true (by decide), a_push_s, a_push_n, true_and, and_true, true_implies, false_implies, implies_true, not_true_eq_false, not_false_eq_true, e_10, e_01, e_11, e_00, or_true, true_or, or_false, false_or, and_self, false_and, and_false, Bool.false_eq_true, if_true, if_false]
        exact Iff.rfl
  · refine ⟨nI 0, S, Or.inl ⟨0, by omega, fun j hj => absurd hj (by omega), k0, rfl⟩, fun _ _ => rfl, fun z => absurd z (m9 0 (by omega)), fun Q => ?_⟩
    simp only [x_X6_readLeaf_0, a_cls_34, h2, x_X6_readLeaf_18, a_push_s, a_push_n, true_and, and_true, true_implies, false_implies, implies_true, not_true_eq_false, not_false_eq_true, e_10, e_01, e_11, e_00, or_true, true_or, or_false, false_or, and_self, false_and, and_false, Bool.false_eq_true, if_true, if_false]
    by_cases c : n = 0
    · subst c
      have : (nI 0 = 0) = True := by decide
      simp only [this, a_push_s, a_push_n, true_and, and_true, true_implies, false_implies, implies_true, not_true_eq_false, not_false_eq_true, e_10, e_01, e_11, e_00, or_true, true_or, or_false, false_or, and_self, false_and, and_false, Bool.false_eq_true, if_true, if_false]
      exact Iff.rfl
    · have n0 : (nI n = 0) = False := eq_false (nI_ne0 (by omega) (by omega))
      have q76 : (nI (T 0) = 76) = False := eq_false (fun z => k0 ⟨by omega, by
        unfold fitsP letN
        rw [if_pos rfl, if_pos (by omega)]
        exact (nI_eq (b := 76) (by have := (ht.2.2.2 0 (by omega)).1; omega) (by omega)).mp z⟩)
      simp only [n0, x_X6_readLeaf_7, x_X6_readLeaf_18, a_cls_34, a_rf_34_1, a_len_35, a_get_35, a0, tc_0, (ht.2.2.2 0 (by omega)).2.2, q76, a_push_s, a_push_n, true_and, and_true, true_implies, false_implies, implies_true, not_true_eq_false, not_false_eq_true, e_10, e_01, e_11, e_00, or_true, true_or, or_false, false_or, and_self, false_and, and_false, Bool.false_eq_true, if_true, if_false]
      exact Iff.rfl
