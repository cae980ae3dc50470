/-- a dot in what hangs with an earlier one of the ink -/
def erB (ink : Int32) (w n i e : Nat) : Bool := anyB (fun d => bt ink d && bt (cmF ink w n d) e) i
def bgB (ink q : Int32) (w n e : Nat) : Bool := decide (¬ nI (cntP (bt (cmF ink w n e)) n) ≤ q)
def urM (ink : Int32) (w n i : Nat) : Int32 := mkS (fun e => bt ink e && !erB ink w n i e) n
def lfM (ink q : Int32) (w n i : Nat) : Int32 := mkS (fun e => (erB ink w n i e && bt ink e) && bgB ink q w n e) n
theorem er_s (ink : Int32) (w n i e : Nat) : erB ink w n (i + 1) e = (erB ink w n i e || (bt ink i && bt (cmF ink w n i) e)) := rfl
theorem ur_bt (ink : Int32) (w : Nat) {n : Nat} (hn : n ≤ 32) (i : Nat) {e : Nat} (he : e < 32) : bt (urM ink w n i) e = (decide (e < n) && (bt ink e && !erB ink w n i e)) := mkS_bt _ n hn e he
theorem lf_bt (ink q : Int32) (w : Nat) {n : Nat} (hn : n ≤ 32) (i : Nat) {e : Nat} (he : e < 32) : bt (lfM ink q w n i) e = (decide (e < n) && ((erB ink w n i e && bt ink e) && bgB ink q w n e)) := mkS_bt _ n hn e he
theorem b_not (x : Int32) {i : Nat} (hi : i < 32) : bt (x ^^^ (-1)) i = !bt x i := by
  rw [b_xor, b_m1 i hi]
  cases bt x i <;> rfl
theorem ur_0 {ink : Int32} {w n : Nat} (hn : n ≤ 32) (hl : lowB n ink) : urM ink w n 0 = ink := by
  apply b_ext
  intro e he
  rw [ur_bt ink w hn 0 he, show erB ink w n 0 e = false from rfl]
  by_cases c : e < n
  · simp [c]
  · simp [c, hl e he (by omega)]
theorem lf_0 {ink q : Int32} {w n : Nat} (hn : n ≤ 32) : lfM ink q w n 0 = 0 := by
  apply b_ext
  intro e he
  rw [lf_bt ink q w hn 0 he, show erB ink w n 0 e = false from rfl, b_0]
  simp
/-- the i-th dot is unread: its group is taken -/
theorem ur_take {ink : Int32} {w n i : Nat} (hn : n ≤ 32) (hi : bt ink i = true) : urM ink w n i &&& (cmF ink w n i ^^^ (-1)) = urM ink w n (i + 1) := by
  apply b_ext
  intro e he
  rw [b_and, ur_bt ink w hn i he, ur_bt ink w hn (i + 1) he, b_not _ he, er_s, hi]
  generalize decide (e < n) = a1
  generalize bt ink e = a2
  generalize erB ink w n i e = a3
  generalize bt (cmF ink w n i) e = a4
  revert a1 a2 a3 a4
  decide
theorem lf_take {ink q : Int32} {w n i : Nat} (hst : stOk ink n i) : lfM ink q w n i ||| (if bgB ink q w n i = true then cmF ink w n i else 0) = lfM ink q w n (i + 1) := by
  have h25 := hst.2.1
  apply b_ext
  intro e he
  rw [b_or, lf_bt ink q w (by omega) i he, lf_bt ink q w (by omega) (i + 1) he, er_s, hst.2.2.2]
  by_cases c : e < n
  · cases hb : bt (cmF ink w n i) e with
    | true =>
      have e1 : bgB ink q w n e = bgB ink q w n i := by unfold bgB; rw [cm_same hst c hb]
      have e2 := cm_ink hst he hb
      rw [e1, e2]
      cases hg : bgB ink q w n i with
      | true => rw [if_pos rfl, hb]; simp [c]
      | false => rw [if_neg (by decide), b_0]; simp
    | false =>
      have z : bt (if bgB ink q w n i = true then cmF ink w n i else 0) e = false := by
        split
        · exact hb
        · exact b_0 e
      rw [z]; simp
  · have z : bt (if bgB ink q w n i = true then cmF ink w n i else 0) e = false := by
      split
      · exact cm_low hst e he (by omega)
      · exact b_0 e
    rw [z]; simp [c]
/-- the i-th dot is not unread: nothing new -/
theorem er_skip {ink : Int32} {w n i : Nat} (hn : n ≤ 25) (hl : lowB n ink) (hi : i < 25) (h : bt (urM ink w n i) i = false) : ∀ e, e < n → erB ink w n (i + 1) e = erB ink w n i e := by
  intro e he
  rw [er_s]
  cases hx : bt ink i with
  | false => simp
  | true =>
    have hin : i < n := by
      rcases Nat.lt_or_ge i n with q | q
      · exact q
      · rw [hl i (by omega) q] at hx; exact absurd hx (by decide)
    rw [ur_bt ink w (by omega) i (by omega)] at h
    simp only [hin, decide_true, hx, Bool.true_and, Bool.not_eq_false'] at h
    obtain ⟨d, hd, hdd⟩ := (anyB_t _ _).mp h
    rw [Bool.and_eq_true] at hdd
    have hdn : d < n := by
      rcases Nat.lt_or_ge d n with q | q
      · exact q
      · rw [hl d (by omega) q] at hdd; exact absurd hdd.1 (by decide)
    have sd : stOk ink n d := ⟨hdn, hn, hl, hdd.1⟩
    have same := cm_same sd hin hdd.2
    rw [same]
    cases hy : bt (cmF ink w n d) e with
    | false => simp
    | true =>
      have : erB ink w n i e = true := (anyB_t _ _).mpr ⟨d, hd, by rw [Bool.and_eq_true]; exact ⟨hdd.1, hy⟩⟩
      rw [this]; rfl
theorem ur_skip {ink : Int32} {w n i : Nat} (hn : n ≤ 25) (hl : lowB n ink) (hi : i < 25) (h : bt (urM ink w n i) i = false) : urM ink w n (i + 1) = urM ink w n i := by
  apply b_ext
  intro e he
  rw [ur_bt ink w (by omega) _ he, ur_bt ink w (by omega) _ he]
  by_cases c : e < n
  · rw [er_skip hn hl hi h e c]
  · simp [c]
theorem lf_skip {ink q : Int32} {w n i : Nat} (hn : n ≤ 25) (hl : lowB n ink) (hi : i < 25) (h : bt (urM ink w n i) i = false) : lfM ink q w n (i + 1) = lfM ink q w n i := by
  apply b_ext
  intro e he
  rw [lf_bt ink q w (by omega) _ he, lf_bt ink q w (by omega) _ he]
  by_cases c : e < n
  · rw [er_skip hn hl hi h e c]
  · simp [c]
theorem lf_end {ink q : Int32} {w n : Nat} (hn : n ≤ 25) (hl : lowB n ink) : lfM ink q w n 25 = mkS (fun e => bt ink e && bgB ink q w n e) n := by
  apply b_ext
  intro e he
  rw [lf_bt ink q w (by omega) _ he, mkS_bt _ n (by omega) e he]
  by_cases c : e < n
  · cases hx : bt ink e with
    | false => simp
    | true =>
      have : erB ink w n 25 e = true := (anyB_t _ _).mpr ⟨e, by omega, by rw [Bool.and_eq_true]; exact ⟨hx, cm_in ⟨c, hn, hl, hx⟩⟩⟩
      rw [this]; simp
  · simp [c]
theorem cm_cnt {ink : Int32} {w n d : Nat} (hst : stOk ink n d) : mkS (bt (cmF ink w n d)) n = cmF ink w n d := mkS_self (by have := hst.2.1; omega) (cm_low hst)
theorem c_clean5 {S : aS} {w h : Nat} {ink : Int32} (hs : shW S 3 w h) (hl : lowB (w * h) ink) (q : Int32) (G : aG) (Q : aQ) : aX mX5_cleaned 55 [.ref 0, .int q, .int ink, .int ink, .int 0, .int 0, .null, .null] [] S G Q ↔ Q (some (.int (mkS (fun e => bt ink e && bgB ink q w (w * h) e) (w * h)))) S G := by
  have hn := shW_n hs
  obtain ⟨n, en⟩ : ∃ n, n = w * h := ⟨_, rfl⟩
  rw [← en] at hn hl ⊢
  obtain ⟨t, -, hX⟩ := lpx (τ := Value × Value) (P := fun i t Q => aX mX5_cleaned 55 [.ref 0, .int q, .int ink, .int (urM ink w n i), .int (lfM ink q w n i), .int (nI i), t.1, t.2] [] S G Q) (I := fun _ _ => True) (Nat.zero_le 25) (fun i t _ hi _ => by
    have ab := and_bt (urM ink w n i) (c := i) (by omega)
    cases hb : bt (urM ink w n i) i with
    | false =>
      refine ⟨(.int (urM ink w n i &&& ((1 : Int32) <<< (nI i &&& 31))), t.2), trivial, fun Q => ?_⟩
      have z : (urM ink w n i &&& ((1 : Int32) <<< (nI i &&& 31)) = 0) = True := eq_true (ab.mpr hb)
      rw [ur_skip hn.2 hl hi hb, lf_skip hn.2 hl hi hb, x_X5_cleaned_55]
      simp only [nle (c := 25) (n := 25) rfl hi (by omega), x_X5_cleaned_62, z, x_X5_cleaned_114, nI_1, a_push_s, a_push_n, true_and, and_true, true_implies, false_implies, implies_true, not_true_eq_false, not_false_eq_true, e_10, e_01, e_11, e_00, or_true, true_or, or_false, false_or, and_self, false_and, and_false, Bool.false_eq_true, if_true, if_false]
    | true =>
      have hb' := hb
      rw [ur_bt ink w (by omega) i (by omega)] at hb'
      simp only [Bool.and_eq_true, decide_eq_true_eq] at hb'
      have hst : stOk ink n i := ⟨hb'.1, hn.2, hl, hb'.2.1⟩
      have z : (urM ink w n i &&& ((1 : Int32) <<< (nI i &&& 31)) = 0) = False := eq_false (fun y => by rw [ab.mp y] at hb; exact absurd hb (by decide))
      have e1 : urM ink w n i &&& ((1 : Int32) <<< (nI i &&& 31)) = dt1 i := by
        apply b_ext
        intro j hj
        unfold dt1
        rw [b_and, b_1shl (by omega) hj]
        by_cases c : j = i
        · subst c; simp [hb]
        · simp [c]
      have hT : ∀ Q, aX mX3_hangingTogether 0 [.ref 3, .int (dt1 i), .int ink, .null, .null, .null] [] S G Q ↔ Q (some (.int (cmF ink w n i))) S G := fun Q => by
        have := c_hangT (d := i) (ink := ink) hs (by rw [← en]; exact hst) G Q
        rw [← en] at this
        exact this
      have hC : ∀ Q, aX mJ6_bitCount_0f7a4 0 [.int (cmF ink w n i)] [] S G Q ↔ Q (some (.int (nI (cntP (bt (cmF ink w n i)) n)))) S G := fun Q => by
        have := c_bitCountS (bt (cmF ink w n i)) hn.2 S G Q
        rwa [cm_cnt hst] at this
      refine ⟨(.int (dt1 i), .int (cmF ink w n i)), trivial, fun Q => ?_⟩
      rw [← ur_take (by omega) hst.2.2.2, ← lf_take hst, x_X5_cleaned_55]
      have dne := dt1_ne hi
      simp only [nle (c := 25) (n := 25) rfl hi (by omega), x_X5_cleaned_62, e1, dne, x_X5_cleaned_75, a_cls_0, a_rf_0_0, a_rf_0_1, a_rf_0_2, a_rf_0_3, a_rf_0_4, a_rf_0_5, a_rf_0_6, a_rf_0_7, a_rf_0_8, a_cls_1, a_rf_1_0, a_len_2, a_get_2, a_cls_3, a_rf_3_0, a_rf_3_1, a_rf_3_2, a_len_4, a_get_4, a_len_5, a_get_5, a_len_6, a_get_6, a_cls_7, a_rf_7_0, a_rf_7_1, a_rf_7_2, a_len_8, a_get_8, a_len_9, a_get_9, a_len_10, a_get_10, a_cls_11, a_rf_11_0, a_rf_11_1, a_rf_11_2, a_len_12, a_get_12, a_len_13, a_get_13, a_len_14, a_get_14, a_cls_15, a_rf_15_0, a_rf_15_1, a_rf_15_2, a_len_16, a_get_16, a_len_17, a_get_17, a_len_18, a_get_18, a_cls_19, a_rf_19_0, a_rf_19_1, a_rf_19_2, a_rf_19_3, a_rf_19_4, a_len_20, a_get_20, a_len_21, a_get_21, a_len_22, a_get_22, a_len_23, a_get_23, a_len_24, a_get_24, a_cls_25, a_rf_25_0, a_rf_25_1, a_rf_25_2, a_rf_25_3, a_len_26, a_get_26, a_len_27, a_get_27, a_len_28, a_get_28, a_len_29, a_get_29, a_cls_30, a_rf_30_0, a_rf_30_1, a_len_31, a_get_31, a_len_32, a_get_32, a_len_33, a_get_33, a_cls_34, a_rf_34_1, a_rf_34_3, a_rf_34_4, a_rf_34_5, a_rf_34_6, a_rf_34_8, a_rf_34_9, a_rf_34_11, a_rf_34_12, a_rf_34_21, a_len_35, a_get_35, a_len_36, a_get_36, a_len_37, a_get_37, a_len_38, a_get_38, a_len_39, a_get_39, a_len_40, a_get_40, a_len_42, a_get_42, a_len_43, a_get_43, a_len_44, a_get_44, a_len_1000, a_get_1000, a_len_1002, a_get_1002, l45, hT, x_X5_cleaned_85, hC, x_X5_cleaned_101, a_push_s, a_push_n, true_and, and_true, true_implies, false_implies, implies_true, not_true_eq_false, not_false_eq_true, e_10, e_01, e_11, e_00, or_true, true_or, or_false, false_or, and_self, false_and, and_false, Bool.false_eq_true, if_true, if_false]
      unfold bgB
      by_cases c : nI (cntP (bt (cmF ink w n i)) n) ≤ q
      · simp only [c, x_X5_cleaned_110, x_X5_cleaned_111, x_X5_cleaned_114, nI_1, decide_false, a_push_s, a_push_n, true_and, and_true, true_implies, false_implies, implies_true, not_true_eq_false, not_false_eq_true, e_10, e_01, e_11, e_00, or_true, true_or, or_false, false_or, and_self, false_and, and_false, Bool.false_eq_true, if_true, if_false]
      · simp only [c, x_X5_cleaned_105, x_X5_cleaned_111, x_X5_cleaned_114, nI_1, decide_true, a_push_s, a_push_n, true_and, and_true, true_implies, false_implies, implies_true, not_true_eq_false, not_false_eq_true, e_10, e_01, e_11, e_00, or_true, true_or, or_false, false_or, and_self, false_and, and_false, Bool.false_eq_true, if_true, if_false]) (.null, .null) trivial
  have h0 := hX Q
  rw [ur_0 (by omega) hl, lf_0 (by omega)] at h0
  refine h0.trans ?_
  rw [lf_end hn.2 hl, x_X5_cleaned_55]
  simp only [yle (c := 25) (n := 25) rfl (Nat.le_refl 25) (show 25 < 2147483648 by omega), x_X5_cleaned_120, a_push_s, a_push_n, true_and, and_true, true_implies, false_implies, implies_true, not_true_eq_false, not_false_eq_true, e_10, e_01, e_11, e_00, or_true, true_or, or_false, false_or, and_self, false_and, and_false, Bool.false_eq_true, if_true, if_false]
theorem c_clean6 {S : aS} {w h : Nat} {ink : Int32} (hp : pOk (S 37) w h) (hl : lowB (w * h) ink) (q : Int32) (G : aG) (Q : aQ) : aX mX6_cleaned 34 [.ref 34, .int q, .int ink, .int 0, .int 0] [] S G Q ↔ Q (some (.int (mkS (fun e => bt ink e && bgB ink q w (w * h) e) (w * h)))) S G := by
  have hn := pOk_n hp
  have r37 : rr 37 := Or.inr (Or.inl rfl)
  refine (lp (n := w * h) (P := fun d => aX mX6_cleaned 34 [.ref 34, .int q, .int ink, .int (mkS (fun e => bt ink e && bgB ink q w (w * h) e) d), .int (nI d)] [] S G Q) (fun d hd => ?_)).trans ?_
  · have es : mkS (fun e => bt ink e && bgB ink q w (w * h) e) (d + 1) = mkS (fun e => bt ink e && bgB ink q w (w * h) e) d ||| (if (bt ink d && bgB ink q w (w * h) d) = true then (1 : Int32) <<< (nI d &&& 31) else 0) := rfl
    have hb := has_bt ink (c := d) (by omega)
    rw [es]
    refine (x_X6_cleaned_34 _ _ _ _ _ S G Q).trans ?_
    simp only [a_cls_0, a_rf_0_0, a_rf_0_1, a_rf_0_2, a_rf_0_3, a_rf_0_4, a_rf_0_5, a_rf_0_6, a_rf_0_7, a_rf_0_8, a_cls_1, a_rf_1_0, a_len_2, a_get_2, a_cls_3, a_rf_3_0, a_rf_3_1, a_rf_3_2, a_len_4, a_get_4, a_len_5, a_get_5, a_len_6, a_get_6, a_cls_7, a_rf_7_0, a_rf_7_1, a_rf_7_2, a_len_8, a_get_8, a_len_9, a_get_9, a_len_10, a_get_10, a_cls_11, a_rf_11_0, a_rf_11_1, a_rf_11_2, a_len_12, a_get_12, a_len_13, a_get_13, a_len_14, a_get_14, a_cls_15, a_rf_15_0, a_rf_15_1, a_rf_15_2, a_len_16, a_get_16, a_len_17, a_get_17, a_len_18, a_get_18, a_cls_19, a_rf_19_0, a_rf_19_1, a_rf_19_2, a_rf_19_3, a_rf_19_4, a_len_20, a_get_20, a_len_21, a_get_21, a_len_22, a_get_22, a_len_23, a_get_23, a_len_24, a_get_24, a_cls_25, a_rf_25_0, a_rf_25_1, a_rf_25_2, a_rf_25_3, a_len_26, a_get_26, a_len_27, a_get_27, a_len_28, a_get_28, a_len_29, a_get_29, a_cls_30, a_rf_30_0, a_rf_30_1, a_len_31, a_get_31, a_len_32, a_get_32, a_len_33, a_get_33, a_cls_34, a_rf_34_1, a_rf_34_3, a_rf_34_4, a_rf_34_5, a_rf_34_6, a_rf_34_8, a_rf_34_9, a_rf_34_11, a_rf_34_12, a_rf_34_21, a_len_35, a_get_35, a_len_36, a_get_36, a_len_37, a_get_37, a_len_38, a_get_38, a_len_39, a_get_39, a_len_40, a_get_40, a_len_42, a_get_42, a_len_43, a_get_43, a_len_44, a_get_44, a_len_1000, a_get_1000, a_len_1002, a_get_1002, l45, c_dotsOf r37 hp.1.1 hp.1.2.1, x_X6_cleaned_43, nle rfl hd (show w * h < 2147483648 by omega), x_X6_cleaned_46, c_has6, a_push_s, a_push_n, true_and, and_true, true_implies, false_implies, implies_true, not_true_eq_false, not_false_eq_true, e_10, e_01, e_11, e_00, or_true, true_or, or_false, false_or, and_self, false_and, and_false, Bool.false_eq_true, if_true, if_false]
    cases hx : bt ink d with
    | false =>
      have nb : ¬ ((ink >>> (nI d &&& 31)) &&& 1 = 1) := fun y => by rw [hb.mp y] at hx; exact absurd hx (by decide)
      simp only [bq_f nb, x_X6_cleaned_53, x_X6_cleaned_80, x_X6_cleaned_81, nI_1, Bool.false_and, a_push_s, a_push_n, true_and, and_true, true_implies, false_implies, implies_true, not_true_eq_false, not_false_eq_true, e_10, e_01, e_11, e_00, or_true, true_or, or_false, false_or, and_self, false_and, and_false, Bool.false_eq_true, if_true, if_false]
    | true =>
      have hst : stOk ink (w * h) d := ⟨hd, hn.2, hl, hx⟩
      have em : manyF (cmF ink w (w * h) d) = nI (cntP (bt (cmF ink w (w * h) d)) (w * h)) := by
        have := many_mkS (bt (cmF ink w (w * h) d)) hn.2
        rwa [cm_cnt hst] at this
      simp only [bq_t (hb.mpr hx), x_X6_cleaned_53, x_X6_cleaned_56, a_cls_0, a_rf_0_0, a_rf_0_1, a_rf_0_2, a_rf_0_3, a_rf_0_4, a_rf_0_5, a_rf_0_6, a_rf_0_7, a_rf_0_8, a_cls_1, a_rf_1_0, a_len_2, a_get_2, a_cls_3, a_rf_3_0, a_rf_3_1, a_rf_3_2, a_len_4, a_get_4, a_len_5, a_get_5, a_len_6, a_get_6, a_cls_7, a_rf_7_0, a_rf_7_1, a_rf_7_2, a_len_8, a_get_8, a_len_9, a_get_9, a_len_10, a_get_10, a_cls_11, a_rf_11_0, a_rf_11_1, a_rf_11_2, a_len_12, a_get_12, a_len_13, a_get_13, a_len_14, a_get_14, a_cls_15, a_rf_15_0, a_rf_15_1, a_rf_15_2, a_len_16, a_get_16, a_len_17, a_get_17, a_len_18, a_get_18, a_cls_19, a_rf_19_0, a_rf_19_1, a_rf_19_2, a_rf_19_3, a_rf_19_4, a_len_20, a_get_20, a_len_21, a_get_21, a_len_22, a_get_22, a_len_23, a_get_23, a_len_24, a_get_24, a_cls_25, a_rf_25_0, a_rf_25_1, a_rf_25_2, a_rf_25_3, a_len_26, a_get_26, a_len_27, a_get_27, a_len_28, a_get_28, a_len_29, a_get_29, a_cls_30, a_rf_30_0, a_rf_30_1, a_len_31, a_get_31, a_len_32, a_get_32, a_len_33, a_get_33, a_cls_34, a_rf_34_1, a_rf_34_3, a_rf_34_4, a_rf_34_5, a_rf_34_6, a_rf_34_8, a_rf_34_9, a_rf_34_11, a_rf_34_12, a_rf_34_21, a_len_35, a_get_35, a_len_36, a_get_36, a_len_37, a_get_37, a_len_38, a_get_38, a_len_39, a_get_39, a_len_40, a_get_40, a_len_42, a_get_42, a_len_43, a_get_43, a_len_44, a_get_44, a_len_1000, a_get_1000, a_len_1002, a_get_1002, l45, c_hang6 hp hst, x_X6_cleaned_66, c_many, em, x_X6_cleaned_69, Bool.true_and, a_push_s, a_push_n, true_and, and_true, true_implies, false_implies, implies_true, not_true_eq_false, not_false_eq_true, e_10, e_01, e_11, e_00, or_true, true_or, or_false, false_or, and_self, false_and, and_false, Bool.false_eq_true, if_true, if_false]
      unfold bgB
      by_cases c : nI (cntP (bt (cmF ink w (w * h) d)) (w * h)) ≤ q
      · simp only [c, x_X6_cleaned_80, x_X6_cleaned_81, nI_1, decide_false, a_push_s, a_push_n, true_and, and_true, true_implies, false_implies, implies_true, not_true_eq_false, not_false_eq_true, e_10, e_01, e_11, e_00, or_true, true_or, or_false, false_or, and_self, false_and, and_false, Bool.false_eq_true, if_true, if_false]
      · simp only [c, x_X6_cleaned_73, x_X6_cleaned_81, nI_1, decide_true, a_push_s, a_push_n, true_and, and_true, true_implies, false_implies, implies_true, not_true_eq_false, not_false_eq_true, e_10, e_01, e_11, e_00, or_true, true_or, or_false, false_or, and_self, false_and, and_false, Bool.false_eq_true, if_true, if_false]
  · rw [x_X6_cleaned_34]
    simp only [a_cls_0, a_rf_0_0, a_rf_0_1, a_rf_0_2, a_rf_0_3, a_rf_0_4, a_rf_0_5, a_rf_0_6, a_rf_0_7, a_rf_0_8, a_cls_1, a_rf_1_0, a_len_2, a_get_2, a_cls_3, a_rf_3_0, a_rf_3_1, a_rf_3_2, a_len_4, a_get_4, a_len_5, a_get_5, a_len_6, a_get_6, a_cls_7, a_rf_7_0, a_rf_7_1, a_rf_7_2, a_len_8, a_get_8, a_len_9, a_get_9, a_len_10, a_get_10, a_cls_11, a_rf_11_0, a_rf_11_1, a_rf_11_2, a_len_12, a_get_12, a_len_13, a_get_13, a_len_14, a_get_14, a_cls_15, a_rf_15_0, a_rf_15_1, a_rf_15_2, a_len_16, a_get_16, a_len_17, a_get_17, a_len_18, a_get_18, a_cls_19, a_rf_19_0, a_rf_19_1, a_rf_19_2, a_rf_19_3, a_rf_19_4, a_len_20, a_get_20, a_len_21, a_get_21, a_len_22, a_get_22, a_len_23, a_get_23, a_len_24, a_get_24, a_cls_25, a_rf_25_0, a_rf_25_1, a_rf_25_2, a_rf_25_3, a_len_26, a_get_26, a_len_27, a_get_27, a_len_28, a_get_28, a_len_29, a_get_29, a_cls_30, a_rf_30_0, a_rf_30_1, a_len_31, a_get_31, a_len_32, a_get_32, a_len_33, a_get_33, a_cls_34, a_rf_34_1, a_rf_34_3, a_rf_34_4, a_rf_34_5, a_rf_34_6, a_rf_34_8, a_rf_34_9, a_rf_34_11, a_rf_34_12, a_rf_34_21, a_len_35, a_get_35, a_len_36, a_get_36, a_len_37, a_get_37, a_len_38, a_get_38, a_len_39, a_get_39, a_len_40, a_get_40, a_len_42, a_get_42, a_len_43, a_get_43, a_len_44, a_get_44, a_len_1000, a_get_1000, a_len_1002, a_get_1002, l45, c_dotsOf r37 hp.1.1 hp.1.2.1, x_X6_cleaned_43, yle rfl (Nat.le_refl (w * h)) (show w * h < 2147483648 by omega), x_X6_cleaned_89, a_push_s, a_push_n, true_and, and_true, true_implies, false_implies, implies_true, not_true_eq_false, not_false_eq_true, e_10, e_01, e_11, e_00, or_true, true_or, or_false, false_or, and_self, false_and, and_false, Bool.false_eq_true, if_true, if_false]
theorem p_cleaned {X N : Nat → Int32} {S : aS} {G : aG} (hI : InvE X N S G) (q : Int32) : Pr X N mX5_cleaned mX6_cleaned [.ref 0, .int q, .null, .null, .null, .null, .null, .null] [.ref 34, .int q, .null, .null, .null] S G := by
  have hI0 := hI
  obtain ⟨w, h, T, nt, nd, b0, b1, ns, hi⟩ := hI
  have hs3 := hi.1.2
  have hp := hi.1.1
  have hn := pOk_n hp
  obtain ⟨k, hk, ek⟩ := hp.2.2.2.2.1
  obtain ⟨b, hb, eb⟩ := hp.2.2.2.2.2.1
  have q0 : (q < 0) = (q.toInt < 0) := by rw [lt_i]; rfl
  have q25 : (q ≤ 25) = (q.toInt ≤ 25) := by rw [le_i]; rfl
  by_cases c1 : 0 ≤ q.toInt ∧ q.toInt ≤ 25
  · have y0 : ¬ q.toInt < 0 := by omega
    obtain ⟨S1, r1, hE, h5, h6, hL⟩ := c_look hs3 hp hk G
    have s1 := sh_eyR hs3 r1
    obtain ⟨ink, ei⟩ : ∃ ink, ink = inkF (S 37) w h k (nI b) := ⟨_, rfl⟩
    have hl : lowB (w * h) ink := by rw [ei, inkF_dmF, dmF_mkS]; exact mkS_low _ (by omega)
    have ed : dmF (S 37) w h k (nI b) 2 (w * h) = ink := by rw [ei, inkF_dmF]
    have t1 : a_pf S1 34 0 0 37 = S 37 := by rw [a_pf_row _ _ _ (by decide), scr_37 (scr_ey r1)]
    obtain ⟨S2, r2, hX2⟩ := c_inkOf (r := 37) (Or.inr (Or.inl rfl)) (S := a_pf S1 34 0 0) (w := w) (h := h) (k := k) (by rw [t1]; exact hp) (by rw [t1]; exact ek) (by omega) G
    rw [t1, eb, ← ei] at hX2
    have t2 : S2 37 = S 37 := by rw [r2.1 37 (by decide), t1]
    refine Pr_q hI0 (.int (mkS (fun e => bt ink e && bgB ink q w (w * h) e) (w * h))) S1 S2 (scr_ey r1) (scr_trans (scr_rw (rw6_pf S1 0 (Or.inl rfl))) (scr_rw r2)) (fun Q => ?_) (fun Q => ?_)
    · rw [x_X5_cleaned_0]
      simp only [q0, y0, x_X5_cleaned_4, q25, c1.2, x_X5_cleaned_13, a_cls_0, a_rf_0_0, a_rf_0_1, a_rf_0_2, a_rf_0_3, a_rf_0_4, a_rf_0_5, a_rf_0_6, a_rf_0_7, a_rf_0_8, a_cls_1, a_rf_1_0, a_len_2, a_get_2, a_cls_3, a_rf_3_0, a_rf_3_1, a_rf_3_2, a_len_4, a_get_4, a_len_5, a_get_5, a_len_6, a_get_6, a_cls_7, a_rf_7_0, a_rf_7_1, a_rf_7_2, a_len_8, a_get_8, a_len_9, a_get_9, a_len_10, a_get_10, a_cls_11, a_rf_11_0, a_rf_11_1, a_rf_11_2, a_len_12, a_get_12, a_len_13, a_get_13, a_len_14, a_get_14, a_cls_15, a_rf_15_0, a_rf_15_1, a_rf_15_2, a_len_16, a_get_16, a_len_17, a_get_17, a_len_18, a_get_18, a_cls_19, a_rf_19_0, a_rf_19_1, a_rf_19_2, a_rf_19_3, a_rf_19_4, a_len_20, a_get_20, a_len_21, a_get_21, a_len_22, a_get_22, a_len_23, a_get_23, a_len_24, a_get_24, a_cls_25, a_rf_25_0, a_rf_25_1, a_rf_25_2, a_rf_25_3, a_len_26, a_get_26, a_len_27, a_get_27, a_len_28, a_get_28, a_len_29, a_get_29, a_cls_30, a_rf_30_0, a_rf_30_1, a_len_31, a_get_31, a_len_32, a_get_32, a_len_33, a_get_33, a_cls_34, a_rf_34_1, a_rf_34_3, a_rf_34_4, a_rf_34_5, a_rf_34_6, a_rf_34_8, a_rf_34_9, a_rf_34_11, a_rf_34_12, a_rf_34_21, a_len_35, a_get_35, a_len_36, a_get_36, a_len_37, a_get_37, a_len_38, a_get_38, a_len_39, a_get_39, a_len_40, a_get_40, a_len_42, a_get_42, a_len_43, a_get_43, a_len_44, a_get_44, a_len_1000, a_get_1000, a_len_1002, a_get_1002, l45, hs3.2.2.2.2.2.1.2.1, ek, hL, x_X5_cleaned_31, s1.2.2.2.2.2.1.2.2, eb, c_dotsMarked hp hE h5 h6 hb, ed, x_X5_cleaned_46, c_clean5 (sh_W s1 hp) hl, a_push_s, a_push_n, true_and, and_true, true_implies, false_implies, implies_true, not_true_eq_false, not_false_eq_true, e_10, e_01, e_11, e_00, or_true, true_or, or_false, false_or, and_self, false_and, and_false, Bool.false_eq_true, if_true, if_false]
    · rw [x_X6_cleaned_0]
      simp only [a_cls_0, a_rf_0_0, a_rf_0_1, a_rf_0_2, a_rf_0_3, a_rf_0_4, a_rf_0_5, a_rf_0_6, a_rf_0_7, a_rf_0_8, a_cls_1, a_rf_1_0, a_len_2, a_get_2, a_cls_3, a_rf_3_0, a_rf_3_1, a_rf_3_2, a_len_4, a_get_4, a_len_5, a_get_5, a_len_6, a_get_6, a_cls_7, a_rf_7_0, a_rf_7_1, a_rf_7_2, a_len_8, a_get_8, a_len_9, a_get_9, a_len_10, a_get_10, a_cls_11, a_rf_11_0, a_rf_11_1, a_rf_11_2, a_len_12, a_get_12, a_len_13, a_get_13, a_len_14, a_get_14, a_cls_15, a_rf_15_0, a_rf_15_1, a_rf_15_2, a_len_16, a_get_16, a_len_17, a_get_17, a_len_18, a_get_18, a_cls_19, a_rf_19_0, a_rf_19_1, a_rf_19_2, a_rf_19_3, a_rf_19_4, a_len_20, a_get_20, a_len_21, a_get_21, a_len_22, a_get_22, a_len_23, a_get_23, a_len_24, a_get_24, a_cls_25, a_rf_25_0, a_rf_25_1, a_rf_25_2, a_rf_25_3, a_len_26, a_get_26, a_len_27, a_get_27, a_len_28, a_get_28, a_len_29, a_get_29, a_cls_30, a_rf_30_0, a_rf_30_1, a_len_31, a_get_31, a_len_32, a_get_32, a_len_33, a_get_33, a_cls_34, a_rf_34_1, a_rf_34_3, a_rf_34_4, a_rf_34_5, a_rf_34_6, a_rf_34_8, a_rf_34_9, a_rf_34_11, a_rf_34_12, a_rf_34_21, a_len_35, a_get_35, a_len_36, a_get_36, a_len_37, a_get_37, a_len_38, a_get_38, a_len_39, a_get_39, a_len_40, a_get_40, a_len_42, a_get_42, a_len_43, a_get_43, a_len_44, a_get_44, a_len_1000, a_get_1000, a_len_1002, a_get_1002, l45, x_X6_cleaned_5, c_in, i2l_i, tl_0, tl_25, bq_t c1, x_X6_cleaned_14, x_X6_cleaned_20, hX2, x_X6_cleaned_28, c_clean6 (S := S2) (w := w) (h := h) (by rw [t2]; exact hp) hl, a_push_s, a_push_n, true_and, and_true, true_implies, false_implies, implies_true, not_true_eq_false, not_false_eq_true, e_10, e_01, e_11, e_00, or_true, true_or, or_false, false_or, and_self, false_and, and_false, Bool.false_eq_true, if_true, if_false]
  · refine Pr_q hI0 (.int (-2)) S (a_pf S 34 0 0) (scr_refl S) (scr_rw (rw6_pf S 0 (Or.inl rfl))) (fun Q => ?_) (fun Q => ?_)
    · rw [x_X5_cleaned_0]
      by_cases y : q.toInt < 0
      · simp only [q0, y, x_X5_cleaned_10, a_push_s, a_push_n, true_and, and_true, true_implies, false_implies, implies_true, not_true_eq_false, not_false_eq_true, e_10, e_01, e_11, e_00, or_true, true_or, or_false, false_or, and_self, false_and, and_false, Bool.false_eq_true, if_true, if_false]
      · have y3 : ¬ q.toInt ≤ 25 := by omega
        simp only [q0, y, x_X5_cleaned_4, q25, y3, x_X5_cleaned_10, a_push_s, a_push_n, true_and, and_true, true_implies, false_implies, implies_true, not_true_eq_false, not_false_eq_true, e_10, e_01, e_11, e_00, or_true, true_or, or_false, false_or, and_self, false_and, and_false, Bool.false_eq_true, if_true, if_false]
    · rw [x_X6_cleaned_0]
      simp only [a_cls_0, a_rf_0_0, a_rf_0_1, a_rf_0_2, a_rf_0_3, a_rf_0_4, a_rf_0_5, a_rf_0_6, a_rf_0_7, a_rf_0_8, a_cls_1, a_rf_1_0, a_len_2, a_get_2, a_cls_3, a_rf_3_0, a_rf_3_1, a_rf_3_2, a_len_4, a_get_4, a_len_5, a_get_5, a_len_6, a_get_6, a_cls_7, a_rf_7_0, a_rf_7_1, a_rf_7_2, a_len_8, a_get_8, a_len_9, a_get_9, a_len_10, a_get_10, a_cls_11, a_rf_11_0, a_rf_11_1, a_rf_11_2, a_len_12, a_get_12, a_len_13, a_get_13, a_len_14, a_get_14, a_cls_15, a_rf_15_0, a_rf_15_1, a_rf_15_2, a_len_16, a_get_16, a_len_17, a_get_17, a_len_18, a_get_18, a_cls_19, a_rf_19_0, a_rf_19_1, a_rf_19_2, a_rf_19_3, a_rf_19_4, a_len_20, a_get_20, a_len_21, a_get_21, a_len_22, a_get_22, a_len_23, a_get_23, a_len_24, a_get_24, a_cls_25, a_rf_25_0, a_rf_25_1, a_rf_25_2, a_rf_25_3, a_len_26, a_get_26, a_len_27, a_get_27, a_len_28, a_get_28, a_len_29, a_get_29, a_cls_30, a_rf_30_0, a_rf_30_1, a_len_31, a_get_31, a_len_32, a_get_32, a_len_33, a_get_33, a_cls_34, a_rf_34_1, a_rf_34_3, a_rf_34_4, a_rf_34_5, a_rf_34_6, a_rf_34_8, a_rf_34_9, a_rf_34_11, a_rf_34_12, a_rf_34_21, a_len_35, a_get_35, a_len_36, a_get_36, a_len_37, a_get_37, a_len_38, a_get_38, a_len_39, a_get_39, a_len_40, a_get_40, a_len_42, a_get_42, a_len_43, a_get_43, a_len_44, a_get_44, a_len_1000, a_get_1000, a_len_1002, a_get_1002, l45, x_X6_cleaned_5, c_in, i2l_i, tl_0, tl_25, bq_f c1, x_X6_cleaned_14, x_X6_cleaned_17, a_push_s, a_push_n, true_and, and_true, true_implies, false_implies, implies_true, not_true_eq_false, not_false_eq_true, e_10, e_01, e_11, e_00, or_true, true_or, or_false, false_or, and_self, false_and, and_false, Bool.false_eq_true, if_true, if_false]
