theorem nlt2 {a b : Nat} (h : b ≤ a) (ha : a < 2147483648) : (nI a < nI b) = False := eq_false (by rw [lt_i, n_i (by omega), n_i (by omega)]; omega)
theorem ylt2 {a b : Nat} (h : a < b) (hb : b < 2147483648) : (nI a < nI b) = True := eq_true (by rw [lt_i, n_i (by omega), n_i (by omega)]; omega)
theorem max0 {x k : Nat} (hx : x < 100) (hk : k < 100) : (if (0 : Int32) < nI x - nI k then nI x - nI k else 0) = nI (x - k) := by
  by_cases h : k < x
  · have e := pk_sub (a := x) (b := k) (by omega)
    rw [e, if_pos]
    rw [lt_i, n_i (by omega)]
    show (0 : Int) < _
    omega
  · rw [if_neg]
    · rw [show x - k = 0 by omega]; rfl
    · rw [lt_i, pk_sub_toInt (by omega) (by omega)]
      show ¬ (0 : Int) < _
      omega
theorem minw {x k w : Nat} (hx : x < 100) (hk : k < 100) (hw : 1 ≤ w ∧ w < 100) : (if nI x + nI k < nI w - 1 then nI x + nI k else nI w - 1) = nI (min (w - 1) (x + k)) := by
  have e : nI w - 1 = nI (w - 1) := pk_sub (a := w) (b := 1) (by omega)
  rw [nI_add, e]
  by_cases h : x + k < w - 1
  · rw [if_pos (by rw [lt_i, n_i (by omega), n_i (by omega)]; omega), show min (w - 1) (x + k) = x + k by omega]
  · rw [if_neg (by rw [lt_i, n_i (by omega), n_i (by omega)]; omega), show min (w - 1) (x + k) = w - 1 by omega]
theorem cnt1 {a b : Nat} (h : a ≤ b) : nI b - nI a + 1 = nI (b + 1 - a) := by
  rw [pk_sub h, nI_1]
  congr 1
  omega
theorem cnt_le {x k w : Nat} (h : x < w) : x - k ≤ min (w - 1) (x + k) := by omega
set_option maxHeartbeats 1000000 in
set_option maxRecDepth 4000 in
theorem c_lookAt {S : aS} {a w h d k : Nat} {p : Nat → Int32} (hs : sh S a p w h) (hp : pOk p w h) (hd : d < w * h) (hk : k ≤ 2) (G : aG) : ∃ S', ey S S' d ∧ eyeAt S' p w h k d ∧ S' 19 5 = p 52 ∧ ∀ Q, (aX mX1_lookAt 0 [.ref 19, .ref a, .int (nI d), .int (nI k), .null, .null, .null, .null, .null, .null, .null, .null, .null] [] S G Q ↔ Q none S' G) := by
  have hW := sh_W hs hp
  have hn := shW_n hW
  have ha := hs.1
  obtain ⟨hw, hh⟩ := hp.1.2.2
  have hx : d % w < w := Nat.mod_lt d (by omega)
  have hy : d / w < h := Nat.div_lt_of_lt_mul hd
  obtain ⟨S5, e5⟩ : ∃ T, T = a_pf S 19 5 (p 52) := ⟨_, rfl⟩
  obtain ⟨S6, e6⟩ : ∃ T, T = a_pf S5 23 d (p (2 + d)) := ⟨_, rfl⟩
  obtain ⟨S7, e7⟩ : ∃ T, T = a_pf S6 24 d (alF p w h d) := ⟨_, rfl⟩
  obtain ⟨S8, e8⟩ : ∃ T, T = a_pf S7 20 d (nI ((min (w - 1) (d % w + k) + 1 - (d % w - k)) * (min (h - 1) (d / w + k) + 1 - (d / w - k)))) := ⟨_, rfl⟩
  have y5 : ey S S5 d := by rw [e5]; exact ey_pf5 S d _
  have y6 : ey S S6 d := by rw [e6]; exact ey_trans y5 (ey_pf _ d _ (by omega))
  have y7 : ey S S7 d := by rw [e7]; exact ey_trans y6 (ey_pf _ d _ (by omega))
  have y8 : ey S S8 d := by rw [e8]; exact ey_trans y7 (ey_pf _ d _ (by omega))
  have s5 := sh_ey hs y5
  have s6 := sh_ey hs y6
  have s7 := sh_ey hs y7
  have s8 := sh_ey hs y8
  have hwf := wF_cls (p := p) hw.2 hh.2 hd hk
  obtain ⟨F, hF⟩ : ∃ F : Nat → Int32 × Int32 → Nat → Int32 × Int32, F = fun j t i => it (fun i t => (t.1 + p (2 + ((d / w - k + j) * w + (d % w - k + i))), t.2 + p (2 + ((d / w - k + j) * w + (d % w - k + i))) * p (2 + ((d / w - k + j) * w + (d % w - k + i))))) t i := ⟨_, rfl⟩
  have hwf2 : (wF p w (w * h) d k).2 = it (fun j t => F j t (min (w - 1) (d % w + k) + 1 - (d % w - k))) (0, 0) (min (h - 1) (d / w + k) + 1 - (d / w - k)) := by rw [hwf, hF]
  have c20 : a_len S8 21 = 25 := rfl
  refine ⟨e2 S8 d (wF p w (w * h) d k).2, ey_trans y8 (ey_e2 _ _ _), ⟨?_, ?_, ?_, ?_, ?_⟩, ?_, fun Q => ?_⟩
  · rw [e2_row _ _ _ (by decide) (by decide), e8, a_pf_same, hwf]
  · rw [e2_21]
  · rw [e2_22]
  · rw [e2_row _ _ _ (by decide) (by decide), e8, a_pf_row _ _ _ (by decide), e7, a_pf_row _ _ _ (by decide), e6, a_pf_same]
  · rw [e2_row _ _ _ (by decide) (by decide), e8, a_pf_row _ _ _ (by decide), e7, a_pf_same]
  · rw [e2_row _ _ _ (by decide) (by decide), e8, a_pf_row _ _ _ (by decide), e7, a_pf_row _ _ _ (by decide), e6, a_pf_row _ _ _ (by decide), e5, a_pf_same]
  · have hc : 0 ≤ (nI d).toInt ∧ (nI d).toInt < (w * h : Nat) := by rw [n_i (by omega)]; omega
    -- the way to the loops
    have pre : aX mX1_lookAt 0 [.ref 19, .ref a, .int (nI d), .int (nI k), .null, .null, .null, .null, .null, .null, .null, .null, .null] [] S G Q ↔ aX mX1_lookAt 143 [.ref 19, .ref a, .int (nI d), .int (nI k), .int (nI (d % w)), .int (nI (d / w)), .int (nI (d % w - k)), .int (nI (min (w - 1) (d % w + k))), .int (nI (d / w - k)), .int (nI (min (h - 1) (d / w + k))), .int (nI (d / w - k)), .null, .null] [] (e2 S8 d (0, 0)) G Q := by
      simp only [x_X1_lookAt_0, sha_cls ha, c_has5 hW, bq_t hc, x_X1_lookAt_5, x_X1_lookAt_9, a_cls_19, hs.2.2.2.2.2.1.1, ← e5, x_X1_lookAt_17, c_greyOf ha (show d < 25 by omega), x_X1_lookAt_28, a_rf_19_3, a_len_23, ain (show d < 25 by omega) (by omega), tc_n (show d < 2147483648 by omega), show (23 < 45) = True from eq_true (by decide), s5.2.2.2.1 d hd, ← e6, x_X1_lookAt_29, c_greyAlone s6 hp hd, x_X1_lookAt_39, a_rf_19_4, a_len_24, show (24 < 45) = True from eq_true (by decide), ← e7, x_X1_lookAt_40, c_columnOf (sh_W s7 hp) (show d < 1000 by omega), x_X1_lookAt_45, c_rowOf (sh_W s7 hp) (show d < 1000 by omega), x_X1_lookAt_52, max0 (show d % w < 100 by omega) (show k < 100 by omega), max0 (show d / w < 100 by omega) (show k < 100 by omega), x_X1_lookAt_62, (sh_W s7 hp).2.1, (sh_W s7 hp).2.2.1, minw (show d % w < 100 by omega) (show k < 100 by omega) (show 1 ≤ w ∧ w < 100 by omega), minw (show d / w < 100 by omega) (show k < 100 by omega) (show 1 ≤ h ∧ h < 100 by omega), x_X1_lookAt_77, x_X1_lookAt_87, x_X1_lookAt_102, a_rf_19_0, a_len_20, show (20 < 45) = True from eq_true (by decide), cnt1 (cnt_le (k := k) hx), cnt1 (cnt_le (k := k) hy), pk_mul, ← e8, x_X1_lookAt_125, a_rf_19_1, a_len_21, show (21 < 45) = True from eq_true (by decide), x_X1_lookAt_132, a_rf_19_2, a_len_22, show (22 < 45) = True from eq_true (by decide), x_X1_lookAt_139, a_push_s, a_push_n, true_and, and_true, true_implies, false_implies, implies_true, not_true_eq_false, not_false_eq_true, e_10, e_01, e_11, e_00, or_true, true_or, or_false, false_or, and_self, false_and, and_false, Bool.false_eq_true, if_true, if_false]
      exact Iff.rfl
    refine pre.trans ?_
    obtain ⟨v, -, hv⟩ := lpx (τ := Value × Value) (P := fun j v Q => aX mX1_lookAt 143 [.ref 19, .ref a, .int (nI d), .int (nI k), .int (nI (d % w)), .int (nI (d / w)), .int (nI (d % w - k)), .int (nI (min (w - 1) (d % w + k))), .int (nI (d / w - k)), .int (nI (min (h - 1) (d / w + k))), .int (nI (d / w - k + j)), v.1, v.2] [] (e2 S8 d (it (fun j t => F j t (min (w - 1) (d % w + k) + 1 - (d % w - k))) (0, 0) j)) G Q) (I := fun _ _ => True) (Nat.zero_le (min (h - 1) (d / w + k) + 1 - (d / w - k))) (fun j v _ hj _ => by
      obtain ⟨t, ht⟩ : ∃ t, t = it (fun j t => F j t (min (w - 1) (d % w + k) + 1 - (d % w - k))) (0, 0) j := ⟨_, rfl⟩
      obtain ⟨v2, -, hv2⟩ := lpx (τ := Value) (P := fun i v Q => aX mX1_lookAt 154 [.ref 19, .ref a, .int (nI d), .int (nI k), .int (nI (d % w)), .int (nI (d / w)), .int (nI (d % w - k)), .int (nI (min (w - 1) (d % w + k))), .int (nI (d / w - k)), .int (nI (min (h - 1) (d / w + k))), .int (nI (d / w - k + j)), .int (nI (d % w - k + i)), v] [] (e2 S8 d (F j t i)) G Q) (I := fun _ _ => True) (Nat.zero_le (min (w - 1) (d % w + k) + 1 - (d % w - k))) (fun i v _ hi _ => by
        have s9 := sh_ey s8 (ey_e2 S8 d (F j t i))
        have hr : d / w - k + j < h := by omega
        have hcc : d % w - k + i < w := by omega
        have hix : (d / w - k + j) * w + (d % w - k + i) < w * h := by
          have : (d / w - k + j) * w + w ≤ h * w := by rw [← Nat.succ_mul]; exact Nat.mul_le_mul_right w hr
          rw [Nat.mul_comm w h]; omega
        refine ⟨.int (p (2 + ((d / w - k + j) * w + (d % w - k + i)))), trivial, fun Q => ?_⟩
        refine (x_X1_lookAt_154 _ _ _ _ _ _ _ _ _ _ _ _ _ _ _ _).trans ?_
        have es : F j t (i + 1) = ((F j t i).1 + p (2 + ((d / w - k + j) * w + (d % w - k + i))), (F j t i).2 + p (2 + ((d / w - k + j) * w + (d % w - k + i))) * p (2 + ((d / w - k + j) * w + (d % w - k + i)))) := by rw [hF]; rfl
        simp only [nlt2 (show d % w - k + i ≤ min (w - 1) (d % w + k) by omega) (by omega), x_X1_lookAt_161, sha_cls ha, (sh_W s9 hp).2.1, pk_mul, nI_add, c_greyOf ha (show (d / w - k + j) * w + (d % w - k + i) < 25 by omega), s9.2.2.2.1 _ hix, x_X1_lookAt_176, a_cls_19, a_rf_19_1, a_rf_19_2, a_len_21, a_len_22, a_get_21, a_get_22, ain (show d < 25 by omega) (by omega), tc_n (show d < 2147483648 by omega), show (21 < 45) = True from eq_true (by decide), show (22 < 45) = True from eq_true (by decide), e2_21, x_X1_lookAt_189, e2_p22, e2_new, x_X1_lookAt_203, nI_1, es, Nat.add_assoc, a_push_s, a_push_n, true_and, and_true, true_implies, false_implies, implies_true, not_true_eq_false, not_false_eq_true, e_10, e_01, e_11, e_00, or_true, true_or, or_false, false_or, and_self, false_and, and_false, Bool.false_eq_true, if_true, if_false]) v.2 trivial
      refine ⟨(.int (nI (d % w - k + (min (w - 1) (d % w + k) + 1 - (d % w - k)))), v2), trivial, fun Q => ?_⟩
      refine (x_X1_lookAt_143 _ _ _ _ _ _ _ _ _ _ _ _ _ _ _ _).trans ?_
      have hv3 := hv2 Q
      have f0 : F j t 0 = t := by rw [hF]; rfl
      rw [f0, Nat.add_zero] at hv3
      simp only [nlt2 (show d / w - k + j ≤ min (h - 1) (d / w + k) by omega) (by omega), x_X1_lookAt_150, ← ht, a_push_s, a_push_n, true_and, and_true, true_implies, false_implies, implies_true, not_true_eq_false, not_false_eq_true, e_10, e_01, e_11, e_00, or_true, true_or, or_false, false_or, and_self, false_and, and_false, Bool.false_eq_true, if_true, if_false]
      refine hv3.trans ?_
      simp only [x_X1_lookAt_154, ylt2 (show min (w - 1) (d % w + k) < d % w - k + (min (w - 1) (d % w + k) + 1 - (d % w - k)) by omega) (by omega), x_X1_lookAt_209, nI_1, it_succ, ← ht, Nat.add_assoc, a_push_s, a_push_n, true_and, and_true, true_implies, false_implies, implies_true, not_true_eq_false, not_false_eq_true, e_10, e_01, e_11, e_00, or_true, true_or, or_false, false_or, and_self, false_and, and_false, Bool.false_eq_true, if_true, if_false]) (.null, .null) trivial
    have hv3 := hv Q
    rw [Nat.add_zero] at hv3
    refine hv3.trans ?_
    simp only [x_X1_lookAt_143, ylt2 (show min (h - 1) (d / w + k) < d / w - k + (min (h - 1) (d / w + k) + 1 - (d / w - k)) by omega) (by omega), x_X1_lookAt_215, hwf2, a_push_s, a_push_n, true_and, and_true, true_implies, false_implies, implies_true, not_true_eq_false, not_false_eq_true, e_10, e_01, e_11, e_00, or_true, true_or, or_false, false_or, and_self, false_and, and_false, Bool.false_eq_true, if_true, if_false]
