/-! PAIRS: cleaned -/
theorem c_withN {S : aS} {a w h : Nat} (hs : shW S a w h) (g : Int32) (G : aG) (Q : aQ) : aX mX3_withNeighbours 0 [.ref a, .int g, .null, .null, .null] [] S G Q ↔ Q (some (.int (wnF w h g))) S G := by
  obtain ⟨ha, h3, h4, hw, hh⟩ := hs
  rw [x_X3_withNeighbours_0]
  refine (lp (n := h) (P := fun i => aX mX3_withNeighbours 4 [.ref a, .int g, .int (fcF w i), .int (nI i), .null] [] S G Q) (fun i hi => ?_)).trans ?_
  · refine (x_X3_withNeighbours_4 _ _ _ _ S G Q).trans ?_
    simp only [sha_cls ha, h4, nle rfl hi (show h < 2147483648 by omega), x_X3_withNeighbours_12, h3, pk_mul, nI_1, fcF, it_succ, a_push_s, a_push_n, true_and, and_true, true_implies, false_implies, implies_true, not_true_eq_false, not_false_eq_true, e_10, e_01, e_11, e_00, or_true, true_or, or_false, false_or, and_self, false_and, and_false, Bool.false_eq_true, if_true, if_false]
  · rw [x_X3_withNeighbours_4]
    simp only [sha_cls ha, h4, yle rfl (Nat.le_refl h) (show h < 2147483648 by omega), x_X3_withNeighbours_29, h3, wnF, upN, sdF, a_push_s, a_push_n, true_and, and_true, true_implies, false_implies, implies_true, not_true_eq_false, not_false_eq_true, e_10, e_01, e_11, e_00, or_true, true_or, or_false, false_or, and_self, false_and, and_false, Bool.false_eq_true, if_true, if_false]
/-- what stood before the k-th step -/
def bfF (ink : Int32) (w n : Nat) (s : Int32) : Nat → Int32
  | 0 => 0
  | k + 1 => flF ink w n s k
theorem bf_s (ink : Int32) (w n : Nat) (s : Int32) (k : Nat) : bfF ink w n s (k + 1) = flF ink w n s k := rfl
theorem fr_lt {a b : Nat} (ha : a < 1000) (hb : b < 1000) : fr a b < 1000 := by unfold fr; split <;> omega
theorem dt1_ne {d : Nat} (hd : d < 25) : dt1 d ≠ 0 := fun z => by
  have := (dt1_bt (d := d) (i := d) (by omega) (by omega)).mpr rfl
  rw [z, b_0] at this
  exact absurd this (by decide)
theorem bf_ne {ink : Int32} {w n d K : Nat} (h : stOk ink n d) (h3 : ∀ k, k < K → flF ink w n (dt1 d) (k + 1) ≠ flF ink w n (dt1 d) k) : ∀ k, k ≤ K → flF ink w n (dt1 d) k ≠ bfF ink w n (dt1 d) k
  | 0, _ => dt1_ne (by have := h.1; have := h.2.1; omega)
  | k + 1, hk => h3 k (by omega)
theorem c_hangT {S : aS} {w h d : Nat} {ink : Int32} (hs : shW S 3 w h) (hst : stOk ink (w * h) d) (G : aG) (Q : aQ) : aX mX3_hangingTogether 0 [.ref 3, .int (dt1 d), .int ink, .null, .null, .null] [] S G Q ↔ Q (some (.int (cmF ink w (w * h) d))) S G := by
  obtain ⟨K, hK, hE, h3⟩ := fl_end (w := w) hst
  have hw := hs.2.2.2.1
  have hh := hs.2.2.2.2
  rw [x_X3_hangingTogether_0]
  refine (lp (n := K + 1) (P := fun s => aX mX3_hangingTogether 8 [.ref 3, .int (dt1 d), .int ink, .int (flF ink w (w * h) (dt1 d) s), .int (bfF ink w (w * h) (dt1 d) s), .int (nI s)] [] S G Q) (fun s hs2 => ?_)).trans ?_
  · have ne := bf_ne hst h3 s (by omega)
    have e := and_wn hw.2 hh.2 hst.2.2.1 (fl_low (w := w) hst s)
    rw [← fl_s] at e
    refine (x_X3_hangingTogether_8 _ _ _ _ _ _ S G Q).trans ?_
    simp only [nle (c := 25) (n := 25) rfl (show s < 25 by omega) (by omega), x_X3_hangingTogether_15, ne, x_X3_hangingTogether_21, a_cls_0, a_rf_0_0, a_rf_0_1, a_rf_0_2, a_rf_0_3, a_rf_0_4, a_rf_0_5, a_rf_0_6, a_rf_0_7, a_rf_0_8, a_cls_1, a_rf_1_0, a_len_2, a_get_2, a_cls_3, a_rf_3_0, a_rf_3_1, a_rf_3_2, a_len_4, a_get_4, a_len_5, a_get_5, a_len_6, a_get_6, a_cls_7, a_rf_7_0, a_rf_7_1, a_rf_7_2, a_len_8, a_get_8, a_len_9, a_get_9, a_len_10, a_get_10, a_cls_11, a_rf_11_0, a_rf_11_1, a_rf_11_2, a_len_12, a_get_12, a_len_13, a_get_13, a_len_14, a_get_14, a_cls_15, a_rf_15_0, a_rf_15_1, a_rf_15_2, a_len_16, a_get_16, a_len_17, a_get_17, a_len_18, a_get_18, a_cls_19, a_rf_19_0, a_rf_19_1, a_rf_19_2, a_rf_19_3, a_rf_19_4, a_len_20, a_get_20, a_len_21, a_get_21, a_len_22, a_get_22, a_len_23, a_get_23, a_len_24, a_get_24, a_cls_25, a_rf_25_0, a_rf_25_1, a_rf_25_2, a_rf_25_3, a_len_26, a_get_26, a_len_27, a_get_27, a_len_28, a_get_28, a_len_29, a_get_29, a_cls_30, a_rf_30_0, a_rf_30_1, a_len_31, a_get_31, a_len_32, a_get_32, a_len_33, a_get_33, a_cls_34, a_rf_34_1, a_rf_34_3, a_rf_34_4, a_rf_34_5, a_rf_34_6, a_rf_34_8, a_rf_34_9, a_rf_34_11, a_rf_34_12, a_rf_34_21, a_len_35, a_get_35, a_len_36, a_get_36, a_len_37, a_get_37, a_len_38, a_get_38, a_len_39, a_get_39, a_len_40, a_get_40, a_len_42, a_get_42, a_len_43, a_get_43, a_len_44, a_get_44, a_len_1000, a_get_1000, a_len_1002, a_get_1002, l45, c_withN hs, x_X3_hangingTogether_30, e, nI_1, bf_s, a_push_s, a_push_n, true_and, and_true, true_implies, false_implies, implies_true, not_true_eq_false, not_false_eq_true, e_10, e_01, e_11, e_00, or_true, true_or, or_false, false_or, and_self, false_and, and_false, Bool.false_eq_true, if_true, if_false]
  · have e1 : flF ink w (w * h) (dt1 d) (K + 1) = bfF ink w (w * h) (dt1 d) (K + 1) := hE
    rw [← cm_of hK hE, x_X3_hangingTogether_8]
    by_cases c : (25 : Int32) ≤ nI (K + 1)
    · simp only [c, x_X3_hangingTogether_38, a_push_s, a_push_n, true_and, and_true, true_implies, false_implies, implies_true, not_true_eq_false, not_false_eq_true, e_10, e_01, e_11, e_00, or_true, true_or, or_false, false_or, and_self, false_and, and_false, Bool.false_eq_true, if_true, if_false]
    · simp only [c, x_X3_hangingTogether_15, ← e1, x_X3_hangingTogether_38, a_push_s, a_push_n, true_and, and_true, true_implies, false_implies, implies_true, not_true_eq_false, not_false_eq_true, e_10, e_01, e_11, e_00, or_true, true_or, or_false, false_or, and_self, false_and, and_false, Bool.false_eq_true, if_true, if_false]
/-- one step of the reference, e dots far -/
def seF (ink : Int32) (w n : Nat) (m : Int32) (e : Nat) : Int32 := mkS (fun i => if i < e then bt (nxF ink w n m) i else bt m i) n
theorem se_0 {ink m : Int32} {w n : Nat} (hn : n ≤ 32) (hm : lowB n m) : seF ink w n m 0 = m := by
  unfold seF
  rw [show (fun i => if i < 0 then bt (nxF ink w n m) i else bt m i) = bt m from funext fun i => if_neg (by omega)]
  exact mkS_self hn hm
theorem se_n {ink m : Int32} {w n : Nat} (hn : n ≤ 32) : seF ink w n m n = nxF ink w n m := by
  apply b_ext
  intro i hi
  unfold seF
  rw [mkS_bt _ n hn i hi]
  by_cases c : i < n
  · simp [c]
  · simp [c, nx_low ink w hn m i hi (by omega)]
theorem se_same {ink m : Int32} {w n e : Nat} (hn : n ≤ 32) (h : bt (nxF ink w n m) e = bt m e) : seF ink w n m (e + 1) = seF ink w n m e := by
  apply b_ext
  intro i hi
  unfold seF
  rw [mkS_bt _ n hn i hi, mkS_bt _ n hn i hi]
  by_cases c : i = e
  · subst c; simp [h]
  · by_cases q : i < e
    · simp [q, show i < e + 1 by omega]
    · simp [q, show ¬ i < e + 1 by omega]
theorem se_more {ink m : Int32} {w n e : Nat} (hn : n ≤ 32) (he : e < n) (h : bt (nxF ink w n m) e = true) : seF ink w n m (e + 1) = seF ink w n m e ||| dt1 e := by
  apply b_ext
  intro i hi
  rw [b_or]
  unfold seF dt1
  rw [mkS_bt _ n hn i hi, mkS_bt _ n hn i hi, b_1shl (by omega) hi]
  by_cases c : i = e
  · subst c; simp [h, he]
  · by_cases q : i < e
    · simp [q, c, show i < e + 1 by omega]
    · simp [q, c, show ¬ i < e + 1 by omega]
theorem se_bt {ink m : Int32} {w n e : Nat} (hn : n ≤ 32) (he : e < n) : bt (seF ink w n m e) e = bt m e := by
  unfold seF
  rw [mkS_bt _ n hn e (by omega)]
  simp [he]
theorem c_hangF {S : aS} {w h e : Nat} (d m was ink : Int32) (hp : pOk (S 37) w h) (he : e < w * h) (hi : bt ink e = true) (hm : bt m e = false) (v7 : Value) (G : aG) : ∃ (v6 : Int32) (v7' : Value), ∀ Q, (aX mX6_hanging 31 [.ref 37, .int d, .int ink, .int m, .int was, .int (nI e), .int 0, v7] [] S G Q ↔ aX mX6_hanging 135 [.ref 37, .int d, .int ink, .int (if anyB (fun f => bt was f && nrB w e f 1) (w * h) = true then m ||| dt1 e else m), .int was, .int (nI e), .int v6, v7'] [] S G Q) := by
  have hn := pOk_n hp
  obtain ⟨hw, hh⟩ := hp.1.2.2
  have r37 : rr 37 := Or.inr (Or.inl rfl)
  have a0 : a_in 0 67 = True := eq_true (by decide)
  have hw0 := ne0_w hw.1 hw.2
  have hie := (has_bt ink (c := e) (by omega)).mpr hi
  have hme : ¬ ((m >>> (nI e &&& 31)) &&& 1 = 1) := fun z => by rw [(has_bt m (c := e) (by omega)).mp z] at hm; exact absurd hm (by decide)
  -- one f
  have step : ∀ f (v7 : Value) Q, f < w * h → (aX mX6_hanging 31 [.ref 37, .int d, .int ink, .int m, .int was, .int (nI e), .int (nI f), v7] [] S G Q ↔ aX mX6_hanging 31 [.ref 37, .int d, .int ink, .int (if (bt was f && nrB w e f 1) = true then m ||| dt1 e else m), .int was, .int (nI e), .int (nI (f + 1)), .int (if (bt was f && nrB w e f 1) = true then 1 else 0)] [] S G Q) := by
    intro f v7 Q hf
    have hwf := has_bt was (c := f) (by omega)
    have m1 : e % w < 2147483648 := by have := Nat.mod_lt e (show 0 < w by omega); omega
    have m2 : f % w < 2147483648 := by have := Nat.mod_lt f (show 0 < w by omega); omega
    have m3 : e / w < 2147483648 := by have := Nat.div_le_self e w; omega
    have m4 : f / w < 2147483648 := by have := Nat.div_le_self f w; omega
    have q1 : fr (e % w) (f % w) < 1000 := by
      have a := Nat.mod_lt e (show 0 < w by omega)
      have b := Nat.mod_lt f (show 0 < w by omega)
      unfold fr; split <;> omega
    have q2 : fr (e / w) (f / w) < 1000 := by
      have a := Nat.div_le_self e w
      have b := Nat.div_le_self f w
      exact fr_lt (by omega) (by omega)
    refine (x_X6_hanging_31 _ _ _ _ _ _ _ _ S G Q).trans ?_
    simp only [c_dotsOf r37 hp.1.1 hp.1.2.1, x_X6_hanging_37, nle rfl hf (show w * h < 2147483648 by omega), x_X6_hanging_40, c_has6, bq_t hie, x_X6_hanging_46, x_X6_hanging_49, bq_f hme, x_X6_hanging_55, x_X6_hanging_58, a_push_s, a_push_n, true_and, and_true, true_implies, false_implies, implies_true, not_true_eq_false, not_false_eq_true, e_10, e_01, e_11, e_00, or_true, true_or, or_false, false_or, and_self, false_and, and_false, Bool.false_eq_true, if_true, if_false]
    cases hz : bt was f with
    | false =>
      have nb : ¬ ((was >>> (nI f &&& 31)) &&& 1 = 1) := fun y => by rw [hwf.mp y] at hz; exact absurd hz (by decide)
      simp only [bq_f nb, x_X6_hanging_65, x_X6_hanging_110, x_X6_hanging_111, x_X6_hanging_126, x_X6_hanging_127, Int32.or_zero, Bool.false_and, nI_1, a_push_s, a_push_n, true_and, and_true, true_implies, false_implies, implies_true, not_true_eq_false, not_false_eq_true, e_10, e_01, e_11, e_00, or_true, true_or, or_false, false_or, and_self, false_and, and_false, Bool.false_eq_true, if_true, if_false]
    | true =>
      simp only [bq_t (hwf.mpr hz), x_X6_hanging_65, x_X6_hanging_68, a_cls_0, a_rf_0_0, a_rf_0_1, a_rf_0_2, a_rf_0_3, a_rf_0_4, a_rf_0_5, a_rf_0_6, a_rf_0_7, a_rf_0_8, a_cls_1, a_rf_1_0, a_len_2, a_get_2, a_cls_3, a_rf_3_0, a_rf_3_1, a_rf_3_2, a_len_4, a_get_4, a_len_5, a_get_5, a_len_6, a_get_6, a_cls_7, a_rf_7_0, a_rf_7_1, a_rf_7_2, a_len_8, a_get_8, a_len_9, a_get_9, a_len_10, a_get_10, a_cls_11, a_rf_11_0, a_rf_11_1, a_rf_11_2, a_len_12, a_get_12, a_len_13, a_get_13, a_len_14, a_get_14, a_cls_15, a_rf_15_0, a_rf_15_1, a_rf_15_2, a_len_16, a_get_16, a_len_17, a_get_17, a_len_18, a_get_18, a_cls_19, a_rf_19_0, a_rf_19_1, a_rf_19_2, a_rf_19_3, a_rf_19_4, a_len_20, a_get_20, a_len_21, a_get_21, a_len_22, a_get_22, a_len_23, a_get_23, a_len_24, a_get_24, a_cls_25, a_rf_25_0, a_rf_25_1, a_rf_25_2, a_rf_25_3, a_len_26, a_get_26, a_len_27, a_get_27, a_len_28, a_get_28, a_len_29, a_get_29, a_cls_30, a_rf_30_0, a_rf_30_1, a_len_31, a_get_31, a_len_32, a_get_32, a_len_33, a_get_33, a_cls_34, a_rf_34_1, a_rf_34_3, a_rf_34_4, a_rf_34_5, a_rf_34_6, a_rf_34_8, a_rf_34_9, a_rf_34_11, a_rf_34_12, a_rf_34_21, a_len_35, a_get_35, a_len_36, a_get_36, a_len_37, a_get_37, a_len_38, a_get_38, a_len_39, a_get_39, a_len_40, a_get_40, a_len_42, a_get_42, a_len_43, a_get_43, a_len_44, a_get_44, a_len_1000, a_get_1000, a_len_1002, a_get_1002, l45, a0, tc_0, hp.1.1, hw0, pk_div (show e < 2 ^ 31 by omega) (show 0 < w by omega) (show w < 2 ^ 31 by omega), pk_div (show f < 2 ^ 31 by omega) (show 0 < w by omega) (show w < 2 ^ 31 by omega), rem_n, c_far _ _ m1 m2, c_far _ _ m3 m4, x_X6_hanging_83, x_X6_hanging_87, x_X6_hanging_102, n2le _ q1, n2le _ q2, Bool.true_and, a_push_s, a_push_n, true_and, and_true, true_implies, false_implies, implies_true, not_true_eq_false, not_false_eq_true, e_10, e_01, e_11, e_00, or_true, true_or, or_false, false_or, and_self, false_and, and_false, Bool.false_eq_true, if_true, if_false]
      by_cases c1 : 2 ≤ fr (e % w) (f % w)
      · have hb : nrB w e f 1 = false := by unfold nrB; simp; omega
        simp only [c1, hb, x_X6_hanging_110, x_X6_hanging_111, x_X6_hanging_126, x_X6_hanging_127, Int32.or_zero, nI_1, a_push_s, a_push_n, true_and, and_true, true_implies, false_implies, implies_true, not_true_eq_false, not_false_eq_true, e_10, e_01, e_11, e_00, or_true, true_or, or_false, false_or, and_self, false_and, and_false, Bool.false_eq_true, if_true, if_false]
      · by_cases c2 : 2 ≤ fr (e / w) (f / w)
        · have hb : nrB w e f 1 = false := by unfold nrB; simp; omega
          simp only [c1, c2, hb, x_X6_hanging_110, x_X6_hanging_111, x_X6_hanging_126, x_X6_hanging_127, Int32.or_zero, nI_1, a_push_s, a_push_n, true_and, and_true, true_implies, false_implies, implies_true, not_true_eq_false, not_false_eq_true, e_10, e_01, e_11, e_00, or_true, true_or, or_false, false_or, and_self, false_and, and_false, Bool.false_eq_true, if_true, if_false]
        · have hb : nrB w e f 1 = true := by unfold nrB; simp; omega
          simp only [c1, c2, hb, x_X6_hanging_106, x_X6_hanging_111, x_X6_hanging_119, x_X6_hanging_127, nI_1, dt1, a_push_s, a_push_n, true_and, and_true, true_implies, false_implies, implies_true, not_true_eq_false, not_false_eq_true, e_10, e_01, e_11, e_00, or_true, true_or, or_false, false_or, and_self, false_and, and_false, Bool.false_eq_true, if_true, if_false]
  rcases least (P := fun f => (bt was f && nrB w e f 1) = false) (w * h) with hall | ⟨f0, hf0, hn0, hb0⟩
  · -- none
    have an : anyB (fun f => bt was f && nrB w e f 1) (w * h) = false := by
      cases hx : anyB (fun f => bt was f && nrB w e f 1) (w * h) with
      | false => rfl
      | true =>
        obtain ⟨i, hi, hf⟩ := (anyB_t _ _).mp hx
        rw [hall i hi] at hf; exact absurd hf (by decide)
    obtain ⟨t, -, hX⟩ := lpx (τ := Value) (P := fun f t Q => aX mX6_hanging 31 [.ref 37, .int d, .int ink, .int m, .int was, .int (nI e), .int (nI f), t] [] S G Q) (I := fun _ _ => True) (Nat.zero_le (w * h)) (fun f t _ hf _ => ⟨.int 0, trivial, fun Q => by
      have := step f t Q hf
      rw [hall f hf] at this
      simpa using this⟩) v7 trivial
    refine ⟨nI (w * h), t, fun Q => (hX Q).trans ?_⟩
    rw [an, x_X6_hanging_31]
    simp only [c_dotsOf r37 hp.1.1 hp.1.2.1, x_X6_hanging_37, yle rfl (Nat.le_refl (w * h)) (show w * h < 2147483648 by omega), a_push_s, a_push_n, true_and, and_true, true_implies, false_implies, implies_true, not_true_eq_false, not_false_eq_true, e_10, e_01, e_11, e_00, or_true, true_or, or_false, false_or, and_self, false_and, and_false, Bool.false_eq_true, if_true, if_false]
  · have t0 : (bt was f0 && nrB w e f0 1) = true := by simpa using hn0
    have an : anyB (fun f => bt was f && nrB w e f 1) (w * h) = true := (anyB_t _ _).mpr ⟨f0, hf0, t0⟩
    obtain ⟨t, -, hX⟩ := lpx (τ := Value) (P := fun f t Q => aX mX6_hanging 31 [.ref 37, .int d, .int ink, .int m, .int was, .int (nI e), .int (nI f), t] [] S G Q) (I := fun _ _ => True) (Nat.zero_le f0) (fun f t _ hf _ => ⟨.int 0, trivial, fun Q => by
      have := step f t Q (by omega)
      rw [hb0 f hf] at this
      simpa using this⟩) v7 trivial
    refine ⟨nI (f0 + 1), .int 1, fun Q => (hX Q).trans ((step f0 t Q hf0).trans ?_)⟩
    rw [an, t0, if_pos rfl, if_pos rfl]
    have hset : ((m ||| dt1 e) >>> (nI e &&& 31)) &&& 1 = 1 := (has_bt _ (c := e) (by omega)).mpr (by rw [b_or, (dt1_bt (by omega) (by omega)).mpr rfl]; simp)
    rw [x_X6_hanging_31]
    simp only [c_dotsOf r37 hp.1.1 hp.1.2.1, x_X6_hanging_37, a_push_s, a_push_n, true_and, and_true, true_implies, false_implies, implies_true, not_true_eq_false, not_false_eq_true, e_10, e_01, e_11, e_00, or_true, true_or, or_false, false_or, and_self, false_and, and_false, Bool.false_eq_true, if_true, if_false]
    by_cases c : nI (w * h) ≤ nI (f0 + 1)
    · simp only [c, a_push_s, a_push_n, true_and, and_true, true_implies, false_implies, implies_true, not_true_eq_false, not_false_eq_true, e_10, e_01, e_11, e_00, or_true, true_or, or_false, false_or, and_self, false_and, and_false, Bool.false_eq_true, if_true, if_false]
    · simp only [c, x_X6_hanging_40, c_has6, bq_t hie, x_X6_hanging_46, x_X6_hanging_49, bq_t hset, x_X6_hanging_55, a_push_s, a_push_n, true_and, and_true, true_implies, false_implies, implies_true, not_true_eq_false, not_false_eq_true, e_10, e_01, e_11, e_00, or_true, true_or, or_false, false_or, and_self, false_and, and_false, Bool.false_eq_true, if_true, if_false]
theorem c_hangE {S : aS} {w h : Nat} (d : Int32) {was ink : Int32} (hp : pOk (S 37) w h) (hm : lowB (w * h) was) (hmi : ∀ i, i < 32 → bt was i = true → bt ink i = true) (v6 v7 : Value) (G : aG) : ∃ (v5 v6' v7' : Value), ∀ Q, (aX mX6_hanging 19 [.ref 37, .int d, .int ink, .int was, .int was, .int 0, v6, v7] [] S G Q ↔ aX mX6_hanging 7 [.ref 37, .int d, .int ink, .int (nxF ink w (w * h) was), .int was, v5, v6', v7'] [] S G Q) := by
  have hn := pOk_n hp
  have r37 : rr 37 := Or.inr (Or.inl rfl)
  obtain ⟨t, -, hX⟩ := lpx (τ := Value × Value) (P := fun e t Q => aX mX6_hanging 19 [.ref 37, .int d, .int ink, .int (seF ink w (w * h) was e), .int was, .int (nI e), t.1, t.2] [] S G Q) (I := fun _ _ => True) (Nat.zero_le (w * h)) (fun e t _ he _ => by
    have pre : ∀ Q, aX mX6_hanging 19 [.ref 37, .int d, .int ink, .int (seF ink w (w * h) was e), .int was, .int (nI e), t.1, t.2] [] S G Q ↔ aX mX6_hanging 31 [.ref 37, .int d, .int ink, .int (seF ink w (w * h) was e), .int was, .int (nI e), .int 0, t.2] [] S G Q := fun Q => by
      rw [x_X6_hanging_19]
      simp only [c_dotsOf r37 hp.1.1 hp.1.2.1, x_X6_hanging_25, nle rfl he (show w * h < 2147483648 by omega), x_X6_hanging_28, a_push_s, a_push_n, true_and, and_true, true_implies, false_implies, implies_true, not_true_eq_false, not_false_eq_true, e_10, e_01, e_11, e_00, or_true, true_or, or_false, false_or, and_self, false_and, and_false, Bool.false_eq_true, if_true, if_false]
    have z0 : (nI (w * h) ≤ 0) = False := nle (c := nI (w * h)) (n := w * h) (i := 0) rfl (by omega) (by omega)
    have sb := se_bt (ink := ink) (m := was) (w := w) (n := w * h) (e := e) (by omega) he
    cases hie : bt ink e with
    | false =>
      have nb : ¬ ((ink >>> (nI e &&& 31)) &&& 1 = 1) := fun y => by rw [(has_bt ink (c := e) (by omega)).mp y] at hie; exact absurd hie (by decide)
      have nx : bt (nxF ink w (w * h) was) e = bt was e := by
        have a : bt was e = false := by
          cases hx : bt was e with
          | false => rfl
          | true => rw [hmi e (by omega) hx] at hie; exact absurd hie (by decide)
        have b : bt (nxF ink w (w * h) was) e = false := by
          cases hx : bt (nxF ink w (w * h) was) e with
          | false => rfl
          | true =>
            have := ((nx_bt ink w (by omega) was (by omega)).mp hx).2.1
            rw [this] at hie; exact absurd hie (by decide)
        rw [a, b]
      refine ⟨(.int 0, t.2), trivial, fun Q => (pre Q).trans ?_⟩
      rw [se_same (by omega) nx, x_X6_hanging_31]
      simp only [c_dotsOf r37 hp.1.1 hp.1.2.1, x_X6_hanging_37, z0, x_X6_hanging_40, c_has6, bq_f nb, x_X6_hanging_46, x_X6_hanging_135, nI_1, a_push_s, a_push_n, true_and, and_true, true_implies, false_implies, implies_true, not_true_eq_false, not_false_eq_true, e_10, e_01, e_11, e_00, or_true, true_or, or_false, false_or, and_self, false_and, and_false, Bool.false_eq_true, if_true, if_false]
    | true =>
      have yb := (has_bt ink (c := e) (by omega)).mpr hie
      cases hwe : bt was e with
      | true =>
        have ys : (seF ink w (w * h) was e >>> (nI e &&& 31)) &&& 1 = 1 := (has_bt _ (c := e) (by omega)).mpr (by rw [sb]; exact hwe)
        have nx : bt (nxF ink w (w * h) was) e = bt was e := by
          rw [hwe, nx_bt ink w (by omega) was (by omega)]
          exact ⟨he, hie, e, he, hwe, nr_r w e⟩
        refine ⟨(.int 0, t.2), trivial, fun Q => (pre Q).trans ?_⟩
        rw [se_same (by omega) nx, x_X6_hanging_31]
        simp only [c_dotsOf r37 hp.1.1 hp.1.2.1, x_X6_hanging_37, z0, x_X6_hanging_40, c_has6, bq_t yb, x_X6_hanging_46, x_X6_hanging_49, bq_t ys, x_X6_hanging_55, x_X6_hanging_135, nI_1, a_push_s, a_push_n, true_and, and_true, true_implies, false_implies, implies_true, not_true_eq_false, not_false_eq_true, e_10, e_01, e_11, e_00, or_true, true_or, or_false, false_or, and_self, false_and, and_false, Bool.false_eq_true, if_true, if_false]
      | false =>
        obtain ⟨v6', v7', hF⟩ := c_hangF d (seF ink w (w * h) was e) was ink hp he hie (sb.trans hwe) t.2 G
        refine ⟨(.int v6', v7'), trivial, fun Q => (pre Q).trans ((hF Q).trans ?_)⟩
        have es : (if anyB (fun f => bt was f && nrB w e f 1) (w * h) = true then seF ink w (w * h) was e ||| dt1 e else seF ink w (w * h) was e) = seF ink w (w * h) was (e + 1) := by
          cases hx : anyB (fun f => bt was f && nrB w e f 1) (w * h) with
          | true =>
            rw [if_pos rfl]
            obtain ⟨f, hf, hff⟩ := (anyB_t _ _).mp hx
            rw [Bool.and_eq_true] at hff
            exact (se_more (by omega) he ((nx_bt ink w (by omega) was (by omega)).mpr ⟨he, hie, f, hf, hff.1, hff.2⟩)).symm
          | false =>
            rw [if_neg (by decide)]
            refine (se_same (by omega) ?_).symm
            rw [hwe]
            cases hy : bt (nxF ink w (w * h) was) e with
            | false => rfl
            | true =>
              obtain ⟨-, -, f, hf, h1, h2⟩ := (nx_bt ink w (by omega) was (by omega)).mp hy
              rw [(anyB_t _ _).mpr ⟨f, hf, by rw [Bool.and_eq_true]; exact ⟨h1, h2⟩⟩] at hx
              exact absurd hx (by decide)
        rw [es, x_X6_hanging_135, nI_1]) (v6, v7) trivial
  refine ⟨.int (nI (w * h)), t.1, t.2, fun Q => ?_⟩
  have h0 := hX Q
  rw [se_0 (by omega) hm] at h0
  refine h0.trans ?_
  rw [se_n (by omega), x_X6_hanging_19]
  simp only [c_dotsOf r37 hp.1.1 hp.1.2.1, x_X6_hanging_25, yle rfl (Nat.le_refl (w * h)) (show w * h < 2147483648 by omega), x_X6_hanging_141, a_push_s, a_push_n, true_and, and_true, true_implies, false_implies, implies_true, not_true_eq_false, not_false_eq_true, e_10, e_01, e_11, e_00, or_true, true_or, or_false, false_or, and_self, false_and, and_false, Bool.false_eq_true, if_true, if_false]
theorem c_hang6 {S : aS} {w h d : Nat} {ink : Int32} (hp : pOk (S 37) w h) (hst : stOk ink (w * h) d) (G : aG) (Q : aQ) : aX mX6_hanging 0 [.ref 37, .int (nI d), .int ink, .null, .null, .null, .null, .null] [] S G Q ↔ Q (some (.int (cmF ink w (w * h) d))) S G := by
  obtain ⟨K, hK, hE, h3⟩ := fl_end (w := w) hst
  obtain ⟨t, -, hX⟩ := lpx (τ := Value × Value × Value) (P := fun s t Q => aX mX6_hanging 7 [.ref 37, .int (nI d), .int ink, .int (flF ink w (w * h) (dt1 d) s), .int (bfF ink w (w * h) (dt1 d) s), t.1, t.2.1, t.2.2] [] S G Q) (I := fun _ _ => True) (Nat.zero_le (K + 1)) (fun s t _ hs2 _ => by
    have ne := bf_ne hst h3 s (by omega)
    obtain ⟨v5, v6', v7', hF⟩ := c_hangE (nI d) hp (fl_low (w := w) hst s) (fl_ink (w := w) hst s) t.2.1 t.2.2 G
    refine ⟨(v5, v6', v7'), trivial, fun Q => Iff.trans ?_ (hF Q)⟩
    rw [x_X6_hanging_7]
    simp only [show ¬ bfF ink w (w * h) (dt1 d) s = flF ink w (w * h) (dt1 d) s from fun z => ne z.symm, x_X6_hanging_13, a_push_s, a_push_n, true_and, and_true, true_implies, false_implies, implies_true, not_true_eq_false, not_false_eq_true, e_10, e_01, e_11, e_00, or_true, true_or, or_false, false_or, and_self, false_and, and_false, Bool.false_eq_true, if_true, if_false]) (.null, .null, .null) trivial
  have e1 : flF ink w (w * h) (dt1 d) (K + 1) = bfF ink w (w * h) (dt1 d) (K + 1) := hE
  rw [x_X6_hanging_0]
  refine (hX Q).trans ?_
  rw [← cm_of hK hE, x_X6_hanging_7]
  simp only [← e1, x_X6_hanging_144, a_push_s, a_push_n, true_and, and_true, true_implies, false_implies, implies_true, not_true_eq_false, not_false_eq_true, e_10, e_01, e_11, e_00, or_true, true_or, or_false, false_or, and_self, false_and, and_false, Bool.false_eq_true, if_true, if_false]
