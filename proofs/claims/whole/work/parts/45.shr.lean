/-! PAIRS: share -/
/-- a page with but some rows -/
def rwP (p : Nat → Int32) (w h : Nat) (m : Int32) : Nat → Int32 := fpF p (fun d => if bt m (d / w) = true then p (2 + d) else 9) (w * h)
theorem rwP_ok {p : Nat → Int32} {w h : Nat} (hp : pOk p w h) (m : Int32) : pOk (rwP p w h m) w h := pOk_fp hp fun d hd => by
  by_cases c : bt m (d / w) = true
  · rw [if_pos c]; exact hp.2.1 d hd
  · exact ⟨9, by omega, by rw [if_neg c]; rfl⟩
theorem rwP_53 {p : Nat → Int32} {w h : Nat} (hp : pOk p w h) (m : Int32) : rwP p w h m 53 = p 53 ∧ rwP p w h m 54 = p 54 := by
  have hn := pOk_n hp
  exact ⟨fpF_out (by omega), fpF_out (by omega)⟩
theorem fpF_fpF (p f g : Nat → Int32) (n : Nat) : fpF (fpF p f n) g n = fpF p g n := by
  funext j
  unfold fpF
  by_cases c : 2 ≤ j ∧ j < 2 + n
  · rw [if_pos c, if_pos c]
  · rw [if_neg c, if_neg c, if_neg c]
theorem div_row {d w i : Nat} (hw : 0 < w) : (i * w ≤ d ∧ d < i * w + w) ↔ d / w = i := by
  constructor
  · intro ⟨h1, h2⟩
    have a := (Nat.le_div_iff_mul_le hw).mpr h1
    have b : d / w < i + 1 := (Nat.div_lt_iff_lt_mul hw).mpr (by rw [Nat.succ_mul]; exact h2)
    omega
  · intro h
    subst h
    have a := Nat.div_mul_le_self d w
    have b := Nat.lt_div_mul_add (a := d) hw
    exact ⟨a, b⟩
theorem c_iwc {S : aS} {w h k b : Nat} {p : Nat → Int32} (hs : sh S 3 p w h) (hp : pOk p w h) (hk : p 53 = nI k) (hk2 : k ≤ 2) (hb : p 54 = nI b) (hb2 : b ≤ 9) (m : Int32) (G : aG) : ∃ S', clT S S' ∧ ∀ Q, (aX mX5_inkWhenCome 0 [.ref 0, .int m, .null] [] S G Q ↔ Q (some (.int (nI (hmF (rwP p w h m) w h k (nI b) 2)))) S' G) := by
  have hn := pOk_n hp
  obtain ⟨hw, hh⟩ := hp.1.2.2
  obtain ⟨S1, a1, a2, a3⟩ := c_copyFrom sha7 hs.1 (by decide) S G
  have s1 := a2 _ _ _ hp hs
  have hW3 : ∀ T : aS, shR 7 S T → T 3 4 = nI h := fun T hT => by rw [hT 3 (by decide) (by decide) (by decide) (by decide)]; exact (sh_W hs hp).2.2.1
  obtain ⟨pg, epg⟩ : ∃ pg : Nat → Nat → Int32, pg = fun i => fpF p (fun d => if d / w < i ∧ ¬ bt m (d / w) = true then 9 else p (2 + d)) (w * h) := ⟨_, rfl⟩
  have pgok : ∀ i, pOk (pg i) w h := fun i => by
    rw [epg]
    exact pOk_fp hp fun d hd => by
      by_cases c : d / w < i ∧ ¬ bt m (d / w) = true
      · exact ⟨9, by omega, by rw [if_pos c]; rfl⟩
      · rw [if_neg c]; exact hp.2.1 d hd
  obtain ⟨T, ⟨rT, sT⟩, hX⟩ := lpx (τ := aS) (P := fun i T Q => aX mX5_inkWhenCome 13 [.ref 0, .int m, .int (nI i)] [] T G Q) (I := fun i T => shR 7 S T ∧ sh T 7 (pg i) w h) (Nat.zero_le h) (fun i T _ hi hI => by
    obtain ⟨rT, sT⟩ := hI
    have q := and_bt m (c := i) (by omega)
    by_cases z : bt m i = true
    · refine ⟨T, ⟨rT, ?_⟩, fun Q => ?_⟩
      · rw [show pg (i + 1) = pg i from by
          rw [epg]
          exact fpF_eq fun d hd => by
            by_cases c : d / w < i ∧ ¬ bt m (d / w) = true
            · rw [if_pos c, if_pos ⟨by omega, c.2⟩]
            · rw [if_neg c, if_neg (fun y => c ⟨by
                have y1 := y.1
                have y2 := y.2
                by_cases e : d / w = i
                · rw [e] at y2; exact absurd z y2
                · omega, y.2⟩)]]
        exact sT
      · have q' : (m &&& ((1 : Int32) <<< (nI i &&& 31)) = 0) = False := eq_false (fun y => by rw [q.mp y] at z; exact absurd z (by decide))
        rw [x_X5_inkWhenCome_13]
        simp only [a_cls_0, a_rf_0_0, a_rf_0_1, a_rf_0_2, a_rf_0_3, a_rf_0_4, a_rf_0_5, a_rf_0_6, a_rf_0_7, a_rf_0_8, a_cls_1, a_rf_1_0, a_len_2, a_get_2, a_cls_3, a_rf_3_0, a_rf_3_1, a_rf_3_2, a_len_4, a_get_4, a_len_5, a_get_5, a_len_6, a_get_6, a_cls_7, a_rf_7_0, a_rf_7_1, a_rf_7_2, a_len_8, a_get_8, a_len_9, a_get_9, a_len_10, a_get_10, a_cls_11, a_rf_11_0, a_rf_11_1, a_rf_11_2, a_len_12, a_get_12, a_len_13, a_get_13, a_len_14, a_get_14, a_cls_15, a_rf_15_0, a_rf_15_1, a_rf_15_2, a_len_16, a_get_16, a_len_17, a_get_17, a_len_18, a_get_18, a_cls_19, a_rf_19_0, a_rf_19_1, a_rf_19_2, a_rf_19_3, a_rf_19_4, a_len_20, a_get_20, a_len_21, a_get_21, a_len_22, a_get_22, a_len_23, a_get_23, a_len_24, a_get_24, a_cls_25, a_rf_25_0, a_rf_25_1, a_rf_25_2, a_rf_25_3, a_len_26, a_get_26, a_len_27, a_get_27, a_len_28, a_get_28, a_len_29, a_get_29, a_cls_30, a_rf_30_0, a_rf_30_1, a_len_31, a_get_31, a_len_32, a_get_32, a_len_33, a_get_33, a_cls_34, a_rf_34_1, a_rf_34_3, a_rf_34_4, a_rf_34_5, a_rf_34_6, a_rf_34_8, a_rf_34_9, a_rf_34_11, a_rf_34_12, a_rf_34_21, a_len_35, a_get_35, a_len_36, a_get_36, a_len_37, a_get_37, a_len_38, a_get_38, a_len_39, a_get_39, a_len_40, a_get_40, a_len_42, a_get_42, a_len_43, a_get_43, a_len_44, a_get_44, a_len_1000, a_get_1000, a_len_1002, a_get_1002, l45, hW3 T rT, nle rfl hi (show h < 2147483648 by omega), x_X5_inkWhenCome_24, q', x_X5_inkWhenCome_41, nI_1, a_push_s, a_push_n, true_and, and_true, true_implies, false_implies, implies_true, not_true_eq_false, not_false_eq_true, e_10, e_01, e_11, e_00, or_true, true_or, or_false, false_or, and_self, false_and, and_false, Bool.false_eq_true, if_true, if_false]
    · have zf : bt m i = false := by simpa using z
      obtain ⟨U, eU⟩ : ∃ U, U = a_wr T (7 + 1) (whF (T (7 + 1)) w i (-1) w) := ⟨_, rfl⟩
      refine ⟨U, ⟨shR_trans rT (by rw [eU]; exact shR_fp T 7 _), ?_⟩, fun Q => ?_⟩
      · have := sh_fp (whF (T (7 + 1)) w i (-1) w) sT (pgok i)
        rw [← eU] at this
        rw [show pg (i + 1) = fpF (pg i) (whF (T (7 + 1)) w i (-1) w) (w * h) from by
          rw [epg, fpF_fpF]
          exact fpF_eq fun d hd => by
            have hT8 : T (7 + 1) d = if d / w < i ∧ ¬ bt m (d / w) = true then 9 else p (2 + d) := by
              rw [sT.2.2.2.1 d hd, epg]
              exact fpF_in hd
            unfold whF
            by_cases c : d / w = i
            · have c2 := (div_row (d := d) (i := i) (show 0 < w by omega)).mpr c
              rw [if_pos ⟨by omega, by rw [c]; exact z⟩, if_pos ⟨c2, fun y => by
                have := (and_bt (-1) (c := d - i * w) (by omega)).mp y
                rw [b_m1 _ (by omega)] at this
                exact absurd this (by decide)⟩]
            · have c2 : ¬ (i * w ≤ d ∧ d < i * w + w) := fun y => c ((div_row (show 0 < w by omega)).mp y)
              rw [if_neg (c := (i * w ≤ d ∧ d < i * w + w) ∧ _) (fun y => c2 y.1), hT8]
              by_cases c3 : d / w < i ∧ ¬ bt m (d / w) = true
              · rw [if_pos c3, if_pos ⟨by omega, c3.2⟩]
              · rw [if_neg c3, if_neg (fun y => c3 ⟨by omega, y.2⟩)]]
        exact this
      · have q' : (m &&& ((1 : Int32) <<< (nI i &&& 31)) = 0) = True := eq_true (q.mpr zf)
        rw [x_X5_inkWhenCome_13]
        simp only [a_cls_0, a_rf_0_0, a_rf_0_1, a_rf_0_2, a_rf_0_3, a_rf_0_4, a_rf_0_5, a_rf_0_6, a_rf_0_7, a_rf_0_8, a_cls_1, a_rf_1_0, a_len_2, a_get_2, a_cls_3, a_rf_3_0, a_rf_3_1, a_rf_3_2, a_len_4, a_get_4, a_len_5, a_get_5, a_len_6, a_get_6, a_cls_7, a_rf_7_0, a_rf_7_1, a_rf_7_2, a_len_8, a_get_8, a_len_9, a_get_9, a_len_10, a_get_10, a_cls_11, a_rf_11_0, a_rf_11_1, a_rf_11_2, a_len_12, a_get_12, a_len_13, a_get_13, a_len_14, a_get_14, a_cls_15, a_rf_15_0, a_rf_15_1, a_rf_15_2, a_len_16, a_get_16, a_len_17, a_get_17, a_len_18, a_get_18, a_cls_19, a_rf_19_0, a_rf_19_1, a_rf_19_2, a_rf_19_3, a_rf_19_4, a_len_20, a_get_20, a_len_21, a_get_21, a_len_22, a_get_22, a_len_23, a_get_23, a_len_24, a_get_24, a_cls_25, a_rf_25_0, a_rf_25_1, a_rf_25_2, a_rf_25_3, a_len_26, a_get_26, a_len_27, a_get_27, a_len_28, a_get_28, a_len_29, a_get_29, a_cls_30, a_rf_30_0, a_rf_30_1, a_len_31, a_get_31, a_len_32, a_get_32, a_len_33, a_get_33, a_cls_34, a_rf_34_1, a_rf_34_3, a_rf_34_4, a_rf_34_5, a_rf_34_6, a_rf_34_8, a_rf_34_9, a_rf_34_11, a_rf_34_12, a_rf_34_21, a_len_35, a_get_35, a_len_36, a_get_36, a_len_37, a_get_37, a_len_38, a_get_38, a_len_39, a_get_39, a_len_40, a_get_40, a_len_42, a_get_42, a_len_43, a_get_43, a_len_44, a_get_44, a_len_1000, a_get_1000, a_len_1002, a_get_1002, l45, hW3 T rT, nle rfl hi (show h < 2147483648 by omega), x_X5_inkWhenCome_24, q', x_X5_inkWhenCome_32, c_whiten (sh_W sT (pgok i)) hi, ← eU, x_X5_inkWhenCome_41, nI_1, a_push_s, a_push_n, true_and, and_true, true_implies, false_implies, implies_true, not_true_eq_false, not_false_eq_true, e_10, e_01, e_11, e_00, or_true, true_or, or_false, false_or, and_self, false_and, and_false, Bool.false_eq_true, if_true, if_false]) S1 ⟨a1, by
      rw [show pg 0 = fpF p (fun d => p (2 + d)) (w * h) from by rw [epg]; exact fpF_eq fun d _ => if_neg (fun y => absurd y.1 (Nat.not_lt_zero _))]
      rw [show fpF p (fun d => p (2 + d)) (w * h) = p from by
        funext j
        unfold fpF
        by_cases c : 2 ≤ j ∧ j < 2 + w * h
        · rw [if_pos c]; show p (2 + (j - 2)) = p j; congr 1; omega
        · rw [if_neg c]]
      exact s1⟩
  have eP : pg h = rwP p w h m := by
    rw [epg]
    exact fpF_eq fun d hd => by
      have : d / w < h := Nat.div_lt_of_lt_mul hd
      by_cases c : bt m (d / w) = true
      · rw [if_pos c, if_neg (fun y => y.2 c)]
      · rw [if_neg c, if_pos ⟨this, c⟩]
  rw [eP] at sT
  have o := rwP_53 hp m
  obtain ⟨S3, r3, hX3⟩ := c_howMany sT (rwP_ok hp m) (o.1.trans hk) hk2 (o.2.trans hb) hb2 2 G
  refine ⟨S3, clT_trans (clT_7 rT) (clT_ey r3), fun Q => ?_⟩
  rw [x_X5_inkWhenCome_0]
  simp only [a_cls_0, a_rf_0_0, a_rf_0_1, a_rf_0_2, a_rf_0_3, a_rf_0_4, a_rf_0_5, a_rf_0_6, a_rf_0_7, a_rf_0_8, a_cls_1, a_rf_1_0, a_len_2, a_get_2, a_cls_3, a_rf_3_0, a_rf_3_1, a_rf_3_2, a_len_4, a_get_4, a_len_5, a_get_5, a_len_6, a_get_6, a_cls_7, a_rf_7_0, a_rf_7_1, a_rf_7_2, a_len_8, a_get_8, a_len_9, a_get_9, a_len_10, a_get_10, a_cls_11, a_rf_11_0, a_rf_11_1, a_rf_11_2, a_len_12, a_get_12, a_len_13, a_get_13, a_len_14, a_get_14, a_cls_15, a_rf_15_0, a_rf_15_1, a_rf_15_2, a_len_16, a_get_16, a_len_17, a_get_17, a_len_18, a_get_18, a_cls_19, a_rf_19_0, a_rf_19_1, a_rf_19_2, a_rf_19_3, a_rf_19_4, a_len_20, a_get_20, a_len_21, a_get_21, a_len_22, a_get_22, a_len_23, a_get_23, a_len_24, a_get_24, a_cls_25, a_rf_25_0, a_rf_25_1, a_rf_25_2, a_rf_25_3, a_len_26, a_get_26, a_len_27, a_get_27, a_len_28, a_get_28, a_len_29, a_get_29, a_cls_30, a_rf_30_0, a_rf_30_1, a_len_31, a_get_31, a_len_32, a_get_32, a_len_33, a_get_33, a_cls_34, a_rf_34_1, a_rf_34_3, a_rf_34_4, a_rf_34_5, a_rf_34_6, a_rf_34_8, a_rf_34_9, a_rf_34_11, a_rf_34_12, a_rf_34_21, a_len_35, a_get_35, a_len_36, a_get_36, a_len_37, a_get_37, a_len_38, a_get_38, a_len_39, a_get_39, a_len_40, a_get_40, a_len_42, a_get_42, a_len_43, a_get_43, a_len_44, a_get_44, a_len_1000, a_get_1000, a_len_1002, a_get_1002, l45, a3, x_X5_inkWhenCome_11, a_push_s, a_push_n, true_and, and_true, true_implies, false_implies, implies_true, not_true_eq_false, not_false_eq_true, e_10, e_01, e_11, e_00, or_true, true_or, or_false, false_or, and_self, false_and, and_false, Bool.false_eq_true, if_true, if_false]
  refine (hX Q).trans ?_
  rw [x_X5_inkWhenCome_13]
  simp only [a_cls_0, a_rf_0_0, a_rf_0_1, a_rf_0_2, a_rf_0_3, a_rf_0_4, a_rf_0_5, a_rf_0_6, a_rf_0_7, a_rf_0_8, a_cls_1, a_rf_1_0, a_len_2, a_get_2, a_cls_3, a_rf_3_0, a_rf_3_1, a_rf_3_2, a_len_4, a_get_4, a_len_5, a_get_5, a_len_6, a_get_6, a_cls_7, a_rf_7_0, a_rf_7_1, a_rf_7_2, a_len_8, a_get_8, a_len_9, a_get_9, a_len_10, a_get_10, a_cls_11, a_rf_11_0, a_rf_11_1, a_rf_11_2, a_len_12, a_get_12, a_len_13, a_get_13, a_len_14, a_get_14, a_cls_15, a_rf_15_0, a_rf_15_1, a_rf_15_2, a_len_16, a_get_16, a_len_17, a_get_17, a_len_18, a_get_18, a_cls_19, a_rf_19_0, a_rf_19_1, a_rf_19_2, a_rf_19_3, a_rf_19_4, a_len_20, a_get_20, a_len_21, a_get_21, a_len_22, a_get_22, a_len_23, a_get_23, a_len_24, a_get_24, a_cls_25, a_rf_25_0, a_rf_25_1, a_rf_25_2, a_rf_25_3, a_len_26, a_get_26, a_len_27, a_get_27, a_len_28, a_get_28, a_len_29, a_get_29, a_cls_30, a_rf_30_0, a_rf_30_1, a_len_31, a_get_31, a_len_32, a_get_32, a_len_33, a_get_33, a_cls_34, a_rf_34_1, a_rf_34_3, a_rf_34_4, a_rf_34_5, a_rf_34_6, a_rf_34_8, a_rf_34_9, a_rf_34_11, a_rf_34_12, a_rf_34_21, a_len_35, a_get_35, a_len_36, a_get_36, a_len_37, a_get_37, a_len_38, a_get_38, a_len_39, a_get_39, a_len_40, a_get_40, a_len_42, a_get_42, a_len_43, a_get_43, a_len_44, a_get_44, a_len_1000, a_get_1000, a_len_1002, a_get_1002, l45, hW3 T rT, yle rfl (Nat.le_refl h) (show h < 2147483648 by omega), x_X5_inkWhenCome_47, hX3, x_X5_inkWhenCome_59, a_push_s, a_push_n, true_and, and_true, true_implies, false_implies, implies_true, not_true_eq_false, not_false_eq_true, e_10, e_01, e_11, e_00, or_true, true_or, or_false, false_or, and_self, false_and, and_false, Bool.false_eq_true, if_true, if_false]
theorem c_ior {S : aS} {w h k b : Nat} (hp : pOk (S 37) w h) (hk : S 37 53 = nI k) (hk2 : k ≤ 2) (hb : S 37 54 = nI b) (m : Int32) (G : aG) : ∃ S', rt6 S S' ∧ S' 44 = S 44 ∧ ∀ Q, (aX mX6_inkOfRows 0 [.ref 34, .int m, .null] [] S G Q ↔ Q (some (.int (nI (hmF (rwP (S 37) w h m) w h k (nI b) 2)))) S' G) := by
  have hn := pOk_n hp
  obtain ⟨hw, hh⟩ := hp.1.2.2
  have a0 : a_in 0 67 = True := eq_true (by decide)
  have hw0 := ne0_w hw.1 hw.2
  obtain ⟨T, ⟨hT, hT38⟩, hX⟩ := lpx (τ := aS) (P := fun d T Q => aX mX6_inkOfRows 6 [.ref 34, .int m, .int (nI d)] [] T G Q) (I := fun d T => (∀ k, k ≠ 38 → T k = S k) ∧ (∀ j, j < 67 → T 38 j = if (2 ≤ j ∧ j < 2 + d) ∧ ¬ bt m ((j - 2) / w) = true then 9 else S 37 j)) (Nat.zero_le (w * h)) (fun d T _ hd hI => by
    obtain ⟨hT, hT38⟩ := hI
    have e37 := hT 37 (by decide)
    have hdw : d / w < 32 := by have := Nat.div_le_self d w; omega
    have hbt := has_bt m (c := d / w) hdw
    have hI2 : (∀ k, k ≠ 38 → (a_pf T 38 (2 + d) (if bt m (d / w) = true then S 37 (2 + d) else 9)) k = S k) ∧ (∀ j, j < 67 → (a_pf T 38 (2 + d) (if bt m (d / w) = true then S 37 (2 + d) else 9)) 38 j = if (2 ≤ j ∧ j < 2 + (d + 1)) ∧ ¬ bt m ((j - 2) / w) = true then 9 else S 37 j) := by
      refine ⟨fun k hk => by rw [a_pf_row _ _ _ hk, hT k hk], fun j hj => ?_⟩
      by_cases q : j = 2 + d
      · subst q
        rw [a_pf_same, Nat.add_sub_cancel_left]
        by_cases z : bt m (d / w) = true
        · rw [if_pos z, if_neg (fun y => y.2 z)]
        · rw [if_neg z, if_pos ⟨by omega, z⟩]
      · rw [a_pf_ne _ _ _ q, hT38 j hj]
        by_cases z : 2 ≤ j ∧ j < 2 + d
        · simp only [z, show 2 ≤ j ∧ j < 2 + (d + 1) by omega, true_and, and_self]
        · simp only [z, show ¬ (2 ≤ j ∧ j < 2 + (d + 1)) by omega, false_and]
    refine ⟨_, hI2, fun Q => ?_⟩
    refine (x_X6_inkOfRows_6 _ _ _ _ G Q).trans ?_
    simp only [a_cls_0, a_rf_0_0, a_rf_0_1, a_rf_0_2, a_rf_0_3, a_rf_0_4, a_rf_0_5, a_rf_0_6, a_rf_0_7, a_rf_0_8, a_cls_1, a_rf_1_0, a_len_2, a_get_2, a_cls_3, a_rf_3_0, a_rf_3_1, a_rf_3_2, a_len_4, a_get_4, a_len_5, a_get_5, a_len_6, a_get_6, a_cls_7, a_rf_7_0, a_rf_7_1, a_rf_7_2, a_len_8, a_get_8, a_len_9, a_get_9, a_len_10, a_get_10, a_cls_11, a_rf_11_0, a_rf_11_1, a_rf_11_2, a_len_12, a_get_12, a_len_13, a_get_13, a_len_14, a_get_14, a_cls_15, a_rf_15_0, a_rf_15_1, a_rf_15_2, a_len_16, a_get_16, a_len_17, a_get_17, a_len_18, a_get_18, a_cls_19, a_rf_19_0, a_rf_19_1, a_rf_19_2, a_rf_19_3, a_rf_19_4, a_len_20, a_get_20, a_len_21, a_get_21, a_len_22, a_get_22, a_len_23, a_get_23, a_len_24, a_get_24, a_cls_25, a_rf_25_0, a_rf_25_1, a_rf_25_2, a_rf_25_3, a_len_26, a_get_26, a_len_27, a_get_27, a_len_28, a_get_28, a_len_29, a_get_29, a_cls_30, a_rf_30_0, a_rf_30_1, a_len_31, a_get_31, a_len_32, a_get_32, a_len_33, a_get_33, a_cls_34, a_rf_34_1, a_rf_34_3, a_rf_34_4, a_rf_34_5, a_rf_34_6, a_rf_34_8, a_rf_34_9, a_rf_34_11, a_rf_34_12, a_rf_34_21, a_len_35, a_get_35, a_len_36, a_get_36, a_len_37, a_get_37, a_len_38, a_get_38, a_len_39, a_get_39, a_len_40, a_get_40, a_len_42, a_get_42, a_len_43, a_get_43, a_len_44, a_get_44, a_len_1000, a_get_1000, a_len_1002, a_get_1002, l45, c_dotsOf (r := 37) (Or.inr (Or.inl rfl)) (S := T) (by rw [e37]; exact hp.1.1) (by rw [e37]; exact hp.1.2.1), x_X6_inkOfRows_14, nle rfl hd (show w * h < 2147483648 by omega), x_X6_inkOfRows_17, a0, tc_0, e37, hp.1.1, hw0, pk_div (show d < 2 ^ 31 by omega) (show 0 < w by omega) (show w < 2 ^ 31 by omega), c_has6, a_push_s, a_push_n, true_and, and_true, true_implies, false_implies, implies_true, not_true_eq_false, not_false_eq_true, e_10, e_01, e_11, e_00, or_true, true_or, or_false, false_or, and_self, false_and, and_false, Bool.false_eq_true, if_true, if_false]
    by_cases z : bt m (d / w) = true
    · simp only [bq_t (hbt.mpr z), x_X6_inkOfRows_36, x_X6_inkOfRows_39, x_X6_inkOfRows_52, x_X6_inkOfRows_53, a_cls_0, a_rf_0_0, a_rf_0_1, a_rf_0_2, a_rf_0_3, a_rf_0_4, a_rf_0_5, a_rf_0_6, a_rf_0_7, a_rf_0_8, a_cls_1, a_rf_1_0, a_len_2, a_get_2, a_cls_3, a_rf_3_0, a_rf_3_1, a_rf_3_2, a_len_4, a_get_4, a_len_5, a_get_5, a_len_6, a_get_6, a_cls_7, a_rf_7_0, a_rf_7_1, a_rf_7_2, a_len_8, a_get_8, a_len_9, a_get_9, a_len_10, a_get_10, a_cls_11, a_rf_11_0, a_rf_11_1, a_rf_11_2, a_len_12, a_get_12, a_len_13, a_get_13, a_len_14, a_get_14, a_cls_15, a_rf_15_0, a_rf_15_1, a_rf_15_2, a_len_16, a_get_16, a_len_17, a_get_17, a_len_18, a_get_18, a_cls_19, a_rf_19_0, a_rf_19_1, a_rf_19_2, a_rf_19_3, a_rf_19_4, a_len_20, a_get_20, a_len_21, a_get_21, a_len_22, a_get_22, a_len_23, a_get_23, a_len_24, a_get_24, a_cls_25, a_rf_25_0, a_rf_25_1, a_rf_25_2, a_rf_25_3, a_len_26, a_get_26, a_len_27, a_get_27, a_len_28, a_get_28, a_len_29, a_get_29, a_cls_30, a_rf_30_0, a_rf_30_1, a_len_31, a_get_31, a_len_32, a_get_32, a_len_33, a_get_33, a_cls_34, a_rf_34_1, a_rf_34_3, a_rf_34_4, a_rf_34_5, a_rf_34_6, a_rf_34_8, a_rf_34_9, a_rf_34_11, a_rf_34_12, a_rf_34_21, a_len_35, a_get_35, a_len_36, a_get_36, a_len_37, a_get_37, a_len_38, a_get_38, a_len_39, a_get_39, a_len_40, a_get_40, a_len_42, a_get_42, a_len_43, a_get_43, a_len_44, a_get_44, a_len_1000, a_get_1000, a_len_1002, a_get_1002, l45, add_2, e37, ain (show 2 + d < 67 by omega) (by omega), tc_n (show 2 + d < 2147483648 by omega), z, nI_1, show (38 < 45) = True by decide, a_push_s, a_push_n, true_and, and_true, true_implies, false_implies, implies_true, not_true_eq_false, not_false_eq_true, e_10, e_01, e_11, e_00, or_true, true_or, or_false, false_or, and_self, false_and, and_false, Bool.false_eq_true, if_true, if_false]
    · simp only [bq_f (fun y => z (hbt.mp y)), x_X6_inkOfRows_36, x_X6_inkOfRows_50, x_X6_inkOfRows_52, x_X6_inkOfRows_53, a_cls_0, a_rf_0_0, a_rf_0_1, a_rf_0_2, a_rf_0_3, a_rf_0_4, a_rf_0_5, a_rf_0_6, a_rf_0_7, a_rf_0_8, a_cls_1, a_rf_1_0, a_len_2, a_get_2, a_cls_3, a_rf_3_0, a_rf_3_1, a_rf_3_2, a_len_4, a_get_4, a_len_5, a_get_5, a_len_6, a_get_6, a_cls_7, a_rf_7_0, a_rf_7_1, a_rf_7_2, a_len_8, a_get_8, a_len_9, a_get_9, a_len_10, a_get_10, a_cls_11, a_rf_11_0, a_rf_11_1, a_rf_11_2, a_len_12, a_get_12, a_len_13, a_get_13, a_len_14, a_get_14, a_cls_15, a_rf_15_0, a_rf_15_1, a_rf_15_2, a_len_16, a_get_16, a_len_17, a_get_17, a_len_18, a_get_18, a_cls_19, a_rf_19_0, a_rf_19_1, a_rf_19_2, a_rf_19_3, a_rf_19_4, a_len_20, a_get_20, a_len_21, a_get_21, a_len_22, a_get_22, a_len_23, a_get_23, a_len_24, a_get_24, a_cls_25, a_rf_25_0, a_rf_25_1, a_rf_25_2, a_rf_25_3, a_len_26, a_get_26, a_len_27, a_get_27, a_len_28, a_get_28, a_len_29, a_get_29, a_cls_30, a_rf_30_0, a_rf_30_1, a_len_31, a_get_31, a_len_32, a_get_32, a_len_33, a_get_33, a_cls_34, a_rf_34_1, a_rf_34_3, a_rf_34_4, a_rf_34_5, a_rf_34_6, a_rf_34_8, a_rf_34_9, a_rf_34_11, a_rf_34_12, a_rf_34_21, a_len_35, a_get_35, a_len_36, a_get_36, a_len_37, a_get_37, a_len_38, a_get_38, a_len_39, a_get_39, a_len_40, a_get_40, a_len_42, a_get_42, a_len_43, a_get_43, a_len_44, a_get_44, a_len_1000, a_get_1000, a_len_1002, a_get_1002, l45, add_2, ain (show 2 + d < 67 by omega) (by omega), tc_n (show 2 + d < 2147483648 by omega), z, nI_1, show (38 < 45) = True by decide, a_push_s, a_push_n, true_and, and_true, true_implies, false_implies, implies_true, not_true_eq_false, not_false_eq_true, e_10, e_01, e_11, e_00, or_true, true_or, or_false, false_or, and_self, false_and, and_false, Bool.false_eq_true, if_true, if_false]) (cpR S 38 (S 37) 0 67) ⟨fun k hk => cpR_row _ _ _ _ hk, fun j hj => by rw [if_neg (by omega)]; exact cpR_in S 38 (S 37) (by omega)⟩
  have q1 : eqP (T 38) (rwP (S 37) w h m) := fun j hj => by
    rw [hT38 j hj]
    unfold rwP fpF
    by_cases q : 2 ≤ j ∧ j < 2 + w * h
    · rw [if_pos q]
      show _ = if bt m ((j - 2) / w) = true then S 37 (2 + (j - 2)) else 9
      by_cases z : bt m ((j - 2) / w) = true
      · rw [if_pos z, if_neg (fun y => y.2 z), show 2 + (j - 2) = j by omega]
      · rw [if_neg z, if_pos ⟨q, z⟩]
    · rw [if_neg q, if_neg (fun y => q y.1)]
  have hq := rwP_ok hp m
  have o := rwP_53 hp m
  have hqp := pOk_ext hq q1
  obtain ⟨S2, r2, hX2⟩ := c_inkOf rr38 (S := T) (w := w) (h := h) (k := k) hqp (by rw [q1 53 (by omega), o.1]; exact hk) (by omega) G
  rw [q1 54 (by omega), o.2, hb] at hX2
  refine ⟨S2, rt6_trans ⟨fun k _ _ h3 _ => hT k h3, fun j _ => by rw [hT 34 (by decide)]⟩ (rt6_of r2), by rw [r2.1 44 (by decide), hT 44 (by decide)], fun Q => ?_⟩
  rw [x_X6_inkOfRows_0]
  simp only [a_cls_0, a_rf_0_0, a_rf_0_1, a_rf_0_2, a_rf_0_3, a_rf_0_4, a_rf_0_5, a_rf_0_6, a_rf_0_7, a_rf_0_8, a_cls_1, a_rf_1_0, a_len_2, a_get_2, a_cls_3, a_rf_3_0, a_rf_3_1, a_rf_3_2, a_len_4, a_get_4, a_len_5, a_get_5, a_len_6, a_get_6, a_cls_7, a_rf_7_0, a_rf_7_1, a_rf_7_2, a_len_8, a_get_8, a_len_9, a_get_9, a_len_10, a_get_10, a_cls_11, a_rf_11_0, a_rf_11_1, a_rf_11_2, a_len_12, a_get_12, a_len_13, a_get_13, a_len_14, a_get_14, a_cls_15, a_rf_15_0, a_rf_15_1, a_rf_15_2, a_len_16, a_get_16, a_len_17, a_get_17, a_len_18, a_get_18, a_cls_19, a_rf_19_0, a_rf_19_1, a_rf_19_2, a_rf_19_3, a_rf_19_4, a_len_20, a_get_20, a_len_21, a_get_21, a_len_22, a_get_22, a_len_23, a_get_23, a_len_24, a_get_24, a_cls_25, a_rf_25_0, a_rf_25_1, a_rf_25_2, a_rf_25_3, a_len_26, a_get_26, a_len_27, a_get_27, a_len_28, a_get_28, a_len_29, a_get_29, a_cls_30, a_rf_30_0, a_rf_30_1, a_len_31, a_get_31, a_len_32, a_get_32, a_len_33, a_get_33, a_cls_34, a_rf_34_1, a_rf_34_3, a_rf_34_4, a_rf_34_5, a_rf_34_6, a_rf_34_8, a_rf_34_9, a_rf_34_11, a_rf_34_12, a_rf_34_21, a_len_35, a_get_35, a_len_36, a_get_36, a_len_37, a_get_37, a_len_38, a_get_38, a_len_39, a_get_39, a_len_40, a_get_40, a_len_42, a_get_42, a_len_43, a_get_43, a_len_44, a_get_44, a_len_1000, a_get_1000, a_len_1002, a_get_1002, l45, c_begin, x_X6_inkOfRows_4, a_push_s, a_push_n, true_and, and_true, true_implies, false_implies, implies_true, not_true_eq_false, not_false_eq_true, e_10, e_01, e_11, e_00, or_true, true_or, or_false, false_or, and_self, false_and, and_false, Bool.false_eq_true, if_true, if_false]
  refine (hX Q).trans ?_
  rw [x_X6_inkOfRows_6]
  have e37 := hT 37 (by decide)
  simp only [a_cls_0, a_rf_0_0, a_rf_0_1, a_rf_0_2, a_rf_0_3, a_rf_0_4, a_rf_0_5, a_rf_0_6, a_rf_0_7, a_rf_0_8, a_cls_1, a_rf_1_0, a_len_2, a_get_2, a_cls_3, a_rf_3_0, a_rf_3_1, a_rf_3_2, a_len_4, a_get_4, a_len_5, a_get_5, a_len_6, a_get_6, a_cls_7, a_rf_7_0, a_rf_7_1, a_rf_7_2, a_len_8, a_get_8, a_len_9, a_get_9, a_len_10, a_get_10, a_cls_11, a_rf_11_0, a_rf_11_1, a_rf_11_2, a_len_12, a_get_12, a_len_13, a_get_13, a_len_14, a_get_14, a_cls_15, a_rf_15_0, a_rf_15_1, a_rf_15_2, a_len_16, a_get_16, a_len_17, a_get_17, a_len_18, a_get_18, a_cls_19, a_rf_19_0, a_rf_19_1, a_rf_19_2, a_rf_19_3, a_rf_19_4, a_len_20, a_get_20, a_len_21, a_get_21, a_len_22, a_get_22, a_len_23, a_get_23, a_len_24, a_get_24, a_cls_25, a_rf_25_0, a_rf_25_1, a_rf_25_2, a_rf_25_3, a_len_26, a_get_26, a_len_27, a_get_27, a_len_28, a_get_28, a_len_29, a_get_29, a_cls_30, a_rf_30_0, a_rf_30_1, a_len_31, a_get_31, a_len_32, a_get_32, a_len_33, a_get_33, a_cls_34, a_rf_34_1, a_rf_34_3, a_rf_34_4, a_rf_34_5, a_rf_34_6, a_rf_34_8, a_rf_34_9, a_rf_34_11, a_rf_34_12, a_rf_34_21, a_len_35, a_get_35, a_len_36, a_get_36, a_len_37, a_get_37, a_len_38, a_get_38, a_len_39, a_get_39, a_len_40, a_get_40, a_len_42, a_get_42, a_len_43, a_get_43, a_len_44, a_get_44, a_len_1000, a_get_1000, a_len_1002, a_get_1002, l45, c_dotsOf (r := 37) (Or.inr (Or.inl rfl)) (S := T) (by rw [e37]; exact hp.1.1) (by rw [e37]; exact hp.1.2.1), x_X6_inkOfRows_14, yle rfl (Nat.le_refl (w * h)) (show w * h < 2147483648 by omega), x_X6_inkOfRows_59, hX2, x_X6_inkOfRows_67, c_many, many_ink hqp, x_X6_inkOfRows_70, hmF_ext hqp q1, a_push_s, a_push_n, true_and, and_true, true_implies, false_implies, implies_true, not_true_eq_false, not_false_eq_true, e_10, e_01, e_11, e_00, or_true, true_or, or_false, false_or, and_self, false_and, and_false, Bool.false_eq_true, if_true, if_false]
theorem or_all : ∀ r, r < 5 → ∀ s, s < 32 → (nI s ||| ((1 : Int32) <<< (nI r &&& 31)) = nI (s ||| 2 ^ r)) ∧ s ||| 2 ^ r < 32 ∧ (s.testBit r = false → s ||| 2 ^ r ≠ s) ∧ (s.testBit r = true → s ||| 2 ^ r = s) := by decide +kernel
theorem or_lt : ∀ h, h ≤ 5 → ∀ r, r < h → ∀ s, s < 2 ^ h → s ||| 2 ^ r < 2 ^ h ∧ (s.testBit r = false → cntN s 25 < h) := by decide +kernel
/-- in how many orders -/
def orF (h s : Nat) : Int32 := facF (h - 1 - cntN s 25) (facF (cntN s 25) 1)
def upF (val : Nat → Int32) (h r n : Nat) : Int32 := it (fun s a => if s.testBit r = true then a else a + orF h s * (val (s ||| 2 ^ r) - val s)) 0 n
def loF (h r n : Nat) : Int32 := it (fun s a => if s.testBit r = true then a else a + orF h s) 0 n
theorem lo_all : ∀ h, h ≤ 5 → ∀ r, r < h → loF h r (2 ^ h) = a_fact h := by decide +kernel
theorem fact_n : ∀ h, h ≤ 5 → ∃ N, 0 < N ∧ N ≤ 120 ∧ a_fact h = nI N := fun h hh => by
  have : h = 0 ∨ h = 1 ∨ h = 2 ∨ h = 3 ∨ h = 4 ∨ h = 5 := by omega
  rcases this with rfl | rfl | rfl | rfl | rfl | rfl
  · exact ⟨1, by omega, by omega, rfl⟩
  · exact ⟨1, by omega, by omega, rfl⟩
  · exact ⟨2, by omega, by omega, rfl⟩
  · exact ⟨6, by omega, by omega, rfl⟩
  · exact ⟨24, by omega, by omega, rfl⟩
  · exact ⟨120, by omega, by omega, rfl⟩
theorem orF_rng : ∀ h, h ≤ 5 → ∀ s, s < 2 ^ h → 0 ≤ (orF h s).toInt ∧ (orF h s).toInt ≤ 120 := by decide +kernel
theorem mul_toInt {a b : Int32} {A B : Int} (ha : a.toInt = A) (hb : b.toInt = B) (h1 : -2147483648 ≤ A * B) (h2 : A * B < 2147483648) : (a * b).toInt = A * B := by
  rw [Int32.toInt_mul, ha, hb, Int.bmod_def]
  have : (A * B) % (2 ^ 32 : Nat) = if 0 ≤ A * B then A * B else A * B + 4294967296 := by
    split
    · exact Int.emod_eq_of_lt (by omega) (by omega)
    · rw [← Int.add_emod_right]
      exact Int.emod_eq_of_lt (by omega) (by omega)
  rw [this]
  split <;> split <;> omega
theorem add_toInt {a b : Int32} (h1 : -2147483648 ≤ a.toInt + b.toInt) (h2 : a.toInt + b.toInt < 2147483648) : (a + b).toInt = a.toInt + b.toInt := by
  rw [Int32.toInt_add, Int.bmod_def]
  have : (a.toInt + b.toInt) % (2 ^ 32 : Nat) = if 0 ≤ a.toInt + b.toInt then a.toInt + b.toInt else a.toInt + b.toInt + 4294967296 := by
    split
    · exact Int.emod_eq_of_lt (by omega) (by omega)
    · rw [← Int.add_emod_right]
      exact Int.emod_eq_of_lt (by omega) (by omega)
  rw [this]
  split <;> split <;> omega
theorem upF_rng {val : Nat → Int32} {hm : Nat → Nat} {h r : Nat} (hh : h ≤ 5) (hr : r < h) (hv : ∀ s, s < 2 ^ h → val s = nI (hm s) ∧ hm s ≤ 25) : ∀ n : Nat, n ≤ 2 ^ h → -(3000 * (n : Int)) ≤ (upF val h r n).toInt ∧ (upF val h r n).toInt ≤ 3000 * (n : Int)
  | 0, _ => by
    have : (upF val h r 0).toInt = 0 := rfl
    rw [this]; omega
  | n + 1, hn => by
    have ih := upF_rng hh hr hv n (by omega)
    have h32 : 2 ^ h ≤ 2 ^ 5 := Nat.pow_le_pow_right (by omega) hh
    have es : upF val h r (n + 1) = if n.testBit r = true then upF val h r n else upF val h r n + orF h n * (val (n ||| 2 ^ r) - val n) := rfl
    rw [es]
    split
    · omega
    · have ol := or_lt h hh r hr n (by omega)
      obtain ⟨v1, v2⟩ := hv n (by omega)
      obtain ⟨v3, v4⟩ := hv (n ||| 2 ^ r) ol.1
      have o := orF_rng h hh n (by omega)
      have d : (val (n ||| 2 ^ r) - val n).toInt = (hm (n ||| 2 ^ r) : Int) - hm n := by rw [v1, v3]; exact pk_sub_toInt (by omega) (by omega)
      have d1 : -25 ≤ (hm (n ||| 2 ^ r) : Int) - hm n ∧ (hm (n ||| 2 ^ r) : Int) - hm n ≤ 25 := by omega
      obtain ⟨A, eA⟩ : ∃ A, A = (orF h n).toInt := ⟨_, rfl⟩
      obtain ⟨B, eB⟩ : ∃ B : Int, B = (hm (n ||| 2 ^ r) : Int) - hm n := ⟨_, rfl⟩
      rw [← eA] at o
      rw [← eB] at d d1
      have m1 : A * B ≤ 3000 ∧ -3000 ≤ A * B := by
        have u1 : A * B ≤ A * 25 := Int.mul_le_mul_of_nonneg_left d1.2 o.1
        have u2 : A * (-25) ≤ A * B := Int.mul_le_mul_of_nonneg_left d1.1 o.1
        omega
      have e := mul_toInt eA.symm d (by omega) (by omega)
      have e2 := add_toInt (a := upF val h r n) (b := orF h n * (val (n ||| 2 ^ r) - val n)) (by rw [e]; omega) (by rw [e]; omega)
      rw [e2, e]
      omega
theorem upF_congr {f g : Nat → Int32} {h r : Nat} (hh : h ≤ 5) (hr : r < h) (hfg : ∀ s, s < 2 ^ h → f s = g s) : upF f h r (2 ^ h) = upF g h r (2 ^ h) := it_congr fun s a hs => by
  have ol := or_lt h hh r hr s hs
  rw [hfg s hs, hfg _ ol.1]
theorem hmF_25 {p : Nat → Int32} {w h : Nat} (hp : pOk p w h) (k : Nat) (c m : Int32) : hmF p w h k c m ≤ 25 := by
  have hn := pOk_n hp
  have := cntP_le (fun d => decide (mkF p w h d k c = m)) (w * h)
  unfold hmF
  omega
/-- only what the class tries on, its eye and its rows' ink have changed -/
def clU (S S' : aS) : Prop := ∀ c, ¬ (7 ≤ c ∧ c ≤ 10) → ¬ (19 ≤ c ∧ c ≤ 24) → c ≠ 33 → S' c = S c
theorem clU_scr {S S' : aS} (h : clU S S') : scr S S' := ⟨fun c a b d _ _ _ _ => h c a b d, fun j _ => by rw [h 34 (by omega) (by omega) (by omega)]⟩
theorem c_share5 {S : aS} {w h r k b : Nat} {p : Nat → Int32} (hs : sh S 3 p w h) (hp : pOk p w h) (hk : p 53 = nI k) (hk2 : k ≤ 2) (hb : p 54 = nI b) (hb2 : b ≤ 9) (hr : r < h) (u : Int32) (G : aG) : ∃ S', clU S S' ∧ ∀ Q, (aX mX5_share 0 [.ref 0, .int (nI r), .int u, .null, .null, .null, .null] [] S G Q ↔ aX mX5_fraction 0 [.int (upF (fun s => nI (hmF (rwP p w h (nI s)) w h k (nI b) 2)) h r (2 ^ h)), .int (a_fact h), .int u, .null] [] S' G (fun v S' G' => Q v S' G')) := by
  obtain ⟨hw, hh⟩ := hp.1.2.2
  have hW := sh_W hs hp
  have h32 : 2 ^ h ≤ 2 ^ 5 := Nat.pow_le_pow_right (by omega) hh.2
  obtain ⟨val, ev⟩ : ∃ val : Nat → Int32, val = fun s => nI (hmF (rwP p w h (nI s)) w h k (nI b) 2) := ⟨_, rfl⟩
  rw [← ev]
  have c1 : 0 ≤ (nI r).toInt ∧ (nI r).toInt < (h : Nat) := by rw [n_i (by omega)]; omega
  obtain ⟨T, ⟨rT, vT⟩, hX⟩ := lpx (τ := aS) (P := fun s T Q => aX mX5_share 24 [.ref 0, .int (nI r), .int u, .int (nI h), .int (nI s), .null, .null] [] T G Q) (I := fun s T => clU S T ∧ ∀ i, i < s → T 33 i = val i) (Nat.zero_le (2 ^ h)) (fun s T _ hsh hI => by
    obtain ⟨rT, vT⟩ := hI
    have hs3 : sh T 3 p w h := sh_cells hs (rT 3 (by omega) (by omega) (by omega)) (rT 4 (by omega) (by omega) (by omega)) (rT 5 (by omega) (by omega) (by omega)) (rT 6 (by omega) (by omega) (by omega))
    obtain ⟨U, rU, hU⟩ := c_iwc hs3 hp hk hk2 hb hb2 (nI s) G
    have e : nI (hmF (rwP p w h (nI s)) w h k (nI b) 2) = val s := by rw [ev]
    rw [e] at hU
    refine ⟨a_pf U 33 s (val s), ⟨fun c h1 h2 h3 => by rw [a_pf_row _ _ _ h3, rU c h1 h2, rT c h1 h2 h3], fun i hi => ?_⟩, fun Q => ?_⟩
    · by_cases q : i = s
      · subst q; rw [a_pf_same]
      · rw [a_pf_ne _ _ _ q, rU 33 (by omega) (by omega)]; exact vT i (by omega)
    · rw [x_X5_share_24]
      simp only [sh1_all h hh.2, nle rfl hsh (show 2 ^ h < 2147483648 by omega), x_X5_share_32, a_cls_0, a_rf_0_8, a_len_33, show (0 < 32) = True by decide, nle (c := Int32.ofNat 32) (n := 32) rfl (show s < 32 by omega) (by omega), x_X5_share_42, hU, x_X5_share_54, a_len_33, ain (show s < 32 by omega) (by omega), tc_n (show s < 2147483648 by omega), show (33 < 45) = True by decide, x_X5_share_55, nI_1, a_push_s, a_push_n, true_and, and_true, true_implies, false_implies, implies_true, not_true_eq_false, not_false_eq_true, e_10, e_01, e_11, e_00, or_true, true_or, or_false, false_or, and_self, false_and, and_false, Bool.false_eq_true, if_true, if_false]) S ⟨fun _ _ _ _ => rfl, fun i hi => absurd hi (by omega)⟩
  obtain ⟨v6, -, hY⟩ := lpx (τ := Value) (P := fun s v Q => aX mX5_share 67 [.ref 0, .int (nI r), .int u, .int (nI h), .int (upF val h r s), .int (nI s), v] [] T G Q) (I := fun _ _ => True) (Nat.zero_le (2 ^ h)) (fun s v _ hsh _ => by
    obtain ⟨o1, o2, o3, o4⟩ := or_all r (by omega) s (by omega)
    obtain ⟨o5, o6⟩ := or_lt h hh.2 r hr s hsh
    have hc := cnt_w hsh hh.2
    have es : upF val h r (s + 1) = if s.testBit r = true then upF val h r s else upF val h r s + orF h s * (val (s ||| 2 ^ r) - val s) := rfl
    rw [es]
    refine ⟨.int (nI (s ||| 2 ^ r)), trivial, fun Q => ?_⟩
    refine (x_X5_share_67 _ _ _ _ _ _ _ _ G Q).trans ?_
    simp only [sh1_all h hh.2, nle rfl hsh (show 2 ^ h < 2147483648 by omega), x_X5_share_75, a_cls_0, a_rf_0_8, a_len_33, show (0 < 32) = True by decide, nle (c := Int32.ofNat 32) (n := 32) rfl (show s < 32 by omega) (by omega), x_X5_share_85, o1, x_X5_share_137, nI_1, a_push_s, a_push_n, true_and, and_true, true_implies, false_implies, implies_true, not_true_eq_false, not_false_eq_true, e_10, e_01, e_11, e_00, or_true, true_or, or_false, false_or, and_self, false_and, and_false, Bool.false_eq_true, if_true, if_false]
    cases hz : s.testBit r with
    | true => simp only [o4 hz, a_push_s, a_push_n, true_and, and_true, true_implies, false_implies, implies_true, not_true_eq_false, not_false_eq_true, e_10, e_01, e_11, e_00, or_true, true_or, or_false, false_or, and_self, false_and, and_false, Bool.false_eq_true, if_true, if_false]
    | false =>
      have ne : (nI (s ||| 2 ^ r) = nI s) = False := eq_false (fun z => o3 hz ((nI_eq (by omega) (by omega)).mp z))
      have hcl := o6 hz
      have eo : facF (h - 1 - cntN s 25) (facF (cntN s 25) 1) = orF h s := rfl
      have co := c_ordersWith (n := h) (c := s) (show s < 2 ^ 31 by omega) (show cntN s 32 < h by omega) hh.2 T G
      rw [hc.1, eo] at co
      simp only [ne, x_X5_share_100, a_cls_0, a_rf_0_8, a_len_33, show (0 < 32) = True by decide, nle (c := Int32.ofNat 32) (n := 32) rfl o2 (by omega), x_X5_share_110, co, x_X5_share_118, a_len_33, a_get_33, ain o2 (show 32 ≤ 2147483648 by omega), ain (show s < 32 by omega) (by omega), tc_n (show s ||| 2 ^ r < 2147483648 by omega), tc_n (show s < 2147483648 by omega), vT _ o5, vT s hsh, x_X5_share_137, nI_1, a_push_s, a_push_n, true_and, and_true, true_implies, false_implies, implies_true, not_true_eq_false, not_false_eq_true, e_10, e_01, e_11, e_00, or_true, true_or, or_false, false_or, and_self, false_and, and_false, Bool.false_eq_true, if_true, if_false]) .null trivial
  refine ⟨T, rT, fun Q => ?_⟩
  rw [x_X5_share_0]
  simp only [a_cls_0, a_rf_0_0, a_rf_0_1, a_rf_0_2, a_rf_0_3, a_rf_0_4, a_rf_0_5, a_rf_0_6, a_rf_0_7, a_rf_0_8, a_cls_1, a_rf_1_0, a_len_2, a_get_2, a_cls_3, a_rf_3_0, a_rf_3_1, a_rf_3_2, a_len_4, a_get_4, a_len_5, a_get_5, a_len_6, a_get_6, a_cls_7, a_rf_7_0, a_rf_7_1, a_rf_7_2, a_len_8, a_get_8, a_len_9, a_get_9, a_len_10, a_get_10, a_cls_11, a_rf_11_0, a_rf_11_1, a_rf_11_2, a_len_12, a_get_12, a_len_13, a_get_13, a_len_14, a_get_14, a_cls_15, a_rf_15_0, a_rf_15_1, a_rf_15_2, a_len_16, a_get_16, a_len_17, a_get_17, a_len_18, a_get_18, a_cls_19, a_rf_19_0, a_rf_19_1, a_rf_19_2, a_rf_19_3, a_rf_19_4, a_len_20, a_get_20, a_len_21, a_get_21, a_len_22, a_get_22, a_len_23, a_get_23, a_len_24, a_get_24, a_cls_25, a_rf_25_0, a_rf_25_1, a_rf_25_2, a_rf_25_3, a_len_26, a_get_26, a_len_27, a_get_27, a_len_28, a_get_28, a_len_29, a_get_29, a_cls_30, a_rf_30_0, a_rf_30_1, a_len_31, a_get_31, a_len_32, a_get_32, a_len_33, a_get_33, a_cls_34, a_rf_34_1, a_rf_34_3, a_rf_34_4, a_rf_34_5, a_rf_34_6, a_rf_34_8, a_rf_34_9, a_rf_34_11, a_rf_34_12, a_rf_34_21, a_len_35, a_get_35, a_len_36, a_get_36, a_len_37, a_get_37, a_len_38, a_get_38, a_len_39, a_get_39, a_len_40, a_get_40, a_len_42, a_get_42, a_len_43, a_get_43, a_len_44, a_get_44, a_len_1000, a_get_1000, a_len_1002, a_get_1002, l45, c_hasRow hW, bq_t c1, x_X5_share_8, x_X5_share_13, hW.2.2.1, a_push_s, a_push_n, true_and, and_true, true_implies, false_implies, implies_true, not_true_eq_false, not_false_eq_true, e_10, e_01, e_11, e_00, or_true, true_or, or_false, false_or, and_self, false_and, and_false, Bool.false_eq_true, if_true, if_false]
  refine (hX Q).trans ?_
  rw [x_X5_share_24]
  simp only [sh1_all h hh.2, yle rfl (Nat.le_refl (2 ^ h)) (show 2 ^ h < 2147483648 by omega), x_X5_share_61, a_push_s, a_push_n, true_and, and_true, true_implies, false_implies, implies_true, not_true_eq_false, not_false_eq_true, e_10, e_01, e_11, e_00, or_true, true_or, or_false, false_or, and_self, false_and, and_false, Bool.false_eq_true, if_true, if_false]
  refine (hY Q).trans ?_
  rw [x_X5_share_67]
  simp only [sh1_all h hh.2, yle rfl (Nat.le_refl (2 ^ h)) (show 2 ^ h < 2147483648 by omega), x_X5_share_143, c_factorial hh.2, x_X5_share_149, a_push_s, a_push_n, true_and, and_true, true_implies, false_implies, implies_true, not_true_eq_false, not_false_eq_true, e_10, e_01, e_11, e_00, or_true, true_or, or_false, false_or, and_self, false_and, and_false, Bool.false_eq_true, if_true, if_false]
  obtain ⟨N, hN0, hN, eN⟩ := fact_n h hh.2
  have ur := upF_rng (val := val) (hm := fun s => hmF (rwP p w h (nI s)) w h k (nI b) 2) hh.2 hr (fun s _ => ⟨by rw [ev], hmF_25 (rwP_ok hp _) _ _ _⟩) (2 ^ h) (Nat.le_refl _)
  rw [eN]
  rw [c_fraction5 _ hN0 (by omega) (by omega), c_fraction5 _ hN0 (by omega) (by omega)]
  simp only [x_X5_share_153, a_push_s, a_push_n, true_and, and_true, true_implies, false_implies, implies_true, not_true_eq_false, not_false_eq_true, e_10, e_01, e_11, e_00, or_true, true_or, or_false, false_or, and_self, false_and, and_false, Bool.false_eq_true, if_true, if_false]
theorem c_share6 {S : aS} {w h r k b : Nat} (hp : pOk (S 37) w h) (hk : S 37 53 = nI k) (hk2 : k ≤ 2) (hb : S 37 54 = nI b) (hr : r < h) (u : Int32) (G : aG) : ∃ S', rt6 S S' ∧ ∀ Q, (aX mX6_share 0 [.ref 34, .int (nI r), .int u, .null, .null, .null, .null, .null] [] S G Q ↔ aX mX6_fraction 0 [.int (upF (fun s => nI (hmF (rwP (S 37) w h (nI s)) w h k (nI b) 2)) h r (2 ^ h)), .int (a_fact h), .int u, .null] [] S' G (fun v S' G' => Q v S' G')) := by
  obtain ⟨hw, hh⟩ := hp.1.2.2
  have h32 : 2 ^ h ≤ 2 ^ 5 := Nat.pow_le_pow_right (by omega) hh.2
  obtain ⟨val, ev⟩ : ∃ val : Nat → Int32, val = fun s => nI (hmF (rwP (S 37) w h (nI s)) w h k (nI b) 2) := ⟨_, rfl⟩
  rw [← ev]
  have eh : (nI h - 1).toInt = (h : Int) - 1 := nI_sub1 hh.1 (by omega)
  have c1' : 0 ≤ (nI r).toInt ∧ (nI r).toInt ≤ (h : Int) - 1 := by rw [n_i (by omega)]; omega
  have a1 : a_in 1 67 = True := eq_true (by decide)
  obtain ⟨T, ⟨rT, vT⟩, hX⟩ := lpx (τ := aS) (P := fun s T Q => aX mX6_share 30 [.ref 34, .int (nI r), .int u, .int (nI h), .int (nI s), .null, .null, .null] [] T G Q) (I := fun s T => rt6 S T ∧ ∀ i, i < s → T 44 i = val i) (Nat.zero_le (2 ^ h)) (fun s T _ hsh hI => by
    obtain ⟨rT, vT⟩ := hI
    have e37 := rT.1 37 (by decide) (by decide) (by decide) (by decide)
    obtain ⟨U, rU, u44, hU⟩ := c_ior (S := T) (w := w) (h := h) (k := k) (b := b) (by rw [e37]; exact hp) (by rw [e37]; exact hk) hk2 (by rw [e37]; exact hb) (nI s) G
    have e : nI (hmF (rwP (T 37) w h (nI s)) w h k (nI b) 2) = val s := by rw [ev, e37]
    rw [e] at hU
    refine ⟨a_pf U 44 s (val s), ⟨rt6_trans rT (rt6_trans rU (rt6_pf U _ _ (by omega))), fun i hi => ?_⟩, fun Q => ?_⟩
    · by_cases q : i = s
      · subst q; rw [a_pf_same]
      · rw [a_pf_ne _ _ _ q, u44]; exact vT i (by omega)
    · rw [x_X6_share_30]
      simp only [sh1_all h hh.2, nle rfl hsh (show 2 ^ h < 2147483648 by omega), x_X6_share_38, a_cls_0, a_rf_0_0, a_rf_0_1, a_rf_0_2, a_rf_0_3, a_rf_0_4, a_rf_0_5, a_rf_0_6, a_rf_0_7, a_rf_0_8, a_cls_1, a_rf_1_0, a_len_2, a_get_2, a_cls_3, a_rf_3_0, a_rf_3_1, a_rf_3_2, a_len_4, a_get_4, a_len_5, a_get_5, a_len_6, a_get_6, a_cls_7, a_rf_7_0, a_rf_7_1, a_rf_7_2, a_len_8, a_get_8, a_len_9, a_get_9, a_len_10, a_get_10, a_cls_11, a_rf_11_0, a_rf_11_1, a_rf_11_2, a_len_12, a_get_12, a_len_13, a_get_13, a_len_14, a_get_14, a_cls_15, a_rf_15_0, a_rf_15_1, a_rf_15_2, a_len_16, a_get_16, a_len_17, a_get_17, a_len_18, a_get_18, a_cls_19, a_rf_19_0, a_rf_19_1, a_rf_19_2, a_rf_19_3, a_rf_19_4, a_len_20, a_get_20, a_len_21, a_get_21, a_len_22, a_get_22, a_len_23, a_get_23, a_len_24, a_get_24, a_cls_25, a_rf_25_0, a_rf_25_1, a_rf_25_2, a_rf_25_3, a_len_26, a_get_26, a_len_27, a_get_27, a_len_28, a_get_28, a_len_29, a_get_29, a_cls_30, a_rf_30_0, a_rf_30_1, a_len_31, a_get_31, a_len_32, a_get_32, a_len_33, a_get_33, a_cls_34, a_rf_34_1, a_rf_34_3, a_rf_34_4, a_rf_34_5, a_rf_34_6, a_rf_34_8, a_rf_34_9, a_rf_34_11, a_rf_34_12, a_rf_34_21, a_len_35, a_get_35, a_len_36, a_get_36, a_len_37, a_get_37, a_len_38, a_get_38, a_len_39, a_get_39, a_len_40, a_get_40, a_len_42, a_get_42, a_len_43, a_get_43, a_len_44, a_get_44, a_len_1000, a_get_1000, a_len_1002, a_get_1002, l45, hU, x_X6_share_50, ain (show s < 32 by omega) (by omega), tc_n (show s < 2147483648 by omega), show (44 < 45) = True by decide, x_X6_share_51, nI_1, a_push_s, a_push_n, true_and, and_true, true_implies, false_implies, implies_true, not_true_eq_false, not_false_eq_true, e_10, e_01, e_11, e_00, or_true, true_or, or_false, false_or, and_self, false_and, and_false, Bool.false_eq_true, if_true, if_false]) (a_pf S 34 0 0) ⟨rt6_of (rw6_pf S 0 (Or.inl rfl)), fun i hi => absurd hi (by omega)⟩
  obtain ⟨v7, -, hY⟩ := lpx (τ := Value) (P := fun s v Q => aX mX6_share 66 [.ref 34, .int (nI r), .int u, .int (nI h), .int (upF val h r s), .int (loF h r s), .int (nI s), v] [] T G Q) (I := fun _ _ => True) (Nat.zero_le (2 ^ h)) (fun s v _ hsh _ => by
    obtain ⟨o1, o2, o3, o4⟩ := or_all r (by omega) s (by omega)
    obtain ⟨o5, o6⟩ := or_lt h hh.2 r hr s hsh
    have hbt := has_bt (nI s) (c := r) (by omega)
    rw [bt_nI (by omega)] at hbt
    have es : upF val h r (s + 1) = if s.testBit r = true then upF val h r s else upF val h r s + orF h s * (val (s ||| 2 ^ r) - val s) := rfl
    have el : loF h r (s + 1) = if s.testBit r = true then loF h r s else loF h r s + orF h s := rfl
    rw [es, el]
    cases hz : s.testBit r with
    | true =>
      refine ⟨v, trivial, fun Q => ?_⟩
      refine (x_X6_share_66 _ _ _ _ _ _ _ _ _ G Q).trans ?_
      simp only [sh1_all h hh.2, nle rfl hsh (show 2 ^ h < 2147483648 by omega), x_X6_share_74, c_has6, bq_t (hbt.mpr hz), x_X6_share_80, x_X6_share_128, nI_1, a_push_s, a_push_n, true_and, and_true, true_implies, false_implies, implies_true, not_true_eq_false, not_false_eq_true, e_10, e_01, e_11, e_00, or_true, true_or, or_false, false_or, and_self, false_and, and_false, Bool.false_eq_true, if_true, if_false]
    | false =>
      refine ⟨.int (orF h s), trivial, fun Q => ?_⟩
      have nb : ¬ ((nI s >>> (nI r &&& 31)) &&& 1 = 1) := fun y => by rw [hbt.mp y] at hz; exact absurd hz (by decide)
      have hcl := o6 hz
      have eo : facF (h - 1 - cntN s 25) (facF (cntN s 25) 1) = orF h s := rfl
      have co := c_orders (n := h) (k := cntN s 25) hcl hh.2 T G
      rw [eo] at co
      refine (x_X6_share_66 _ _ _ _ _ _ _ _ _ G Q).trans ?_
      simp only [sh1_all h hh.2, nle rfl hsh (show 2 ^ h < 2147483648 by omega), x_X6_share_74, c_has6, bq_f nb, x_X6_share_80, x_X6_share_83, c_many, many_cnt (show s < 2 ^ 31 by omega), x_X6_share_89, co, x_X6_share_92, o1, a_cls_0, a_rf_0_0, a_rf_0_1, a_rf_0_2, a_rf_0_3, a_rf_0_4, a_rf_0_5, a_rf_0_6, a_rf_0_7, a_rf_0_8, a_cls_1, a_rf_1_0, a_len_2, a_get_2, a_cls_3, a_rf_3_0, a_rf_3_1, a_rf_3_2, a_len_4, a_get_4, a_len_5, a_get_5, a_len_6, a_get_6, a_cls_7, a_rf_7_0, a_rf_7_1, a_rf_7_2, a_len_8, a_get_8, a_len_9, a_get_9, a_len_10, a_get_10, a_cls_11, a_rf_11_0, a_rf_11_1, a_rf_11_2, a_len_12, a_get_12, a_len_13, a_get_13, a_len_14, a_get_14, a_cls_15, a_rf_15_0, a_rf_15_1, a_rf_15_2, a_len_16, a_get_16, a_len_17, a_get_17, a_len_18, a_get_18, a_cls_19, a_rf_19_0, a_rf_19_1, a_rf_19_2, a_rf_19_3, a_rf_19_4, a_len_20, a_get_20, a_len_21, a_get_21, a_len_22, a_get_22, a_len_23, a_get_23, a_len_24, a_get_24, a_cls_25, a_rf_25_0, a_rf_25_1, a_rf_25_2, a_rf_25_3, a_len_26, a_get_26, a_len_27, a_get_27, a_len_28, a_get_28, a_len_29, a_get_29, a_cls_30, a_rf_30_0, a_rf_30_1, a_len_31, a_get_31, a_len_32, a_get_32, a_len_33, a_get_33, a_cls_34, a_rf_34_1, a_rf_34_3, a_rf_34_4, a_rf_34_5, a_rf_34_6, a_rf_34_8, a_rf_34_9, a_rf_34_11, a_rf_34_12, a_rf_34_21, a_len_35, a_get_35, a_len_36, a_get_36, a_len_37, a_get_37, a_len_38, a_get_38, a_len_39, a_get_39, a_len_40, a_get_40, a_len_42, a_get_42, a_len_43, a_get_43, a_len_44, a_get_44, a_len_1000, a_get_1000, a_len_1002, a_get_1002, l45, ain o2 (show 32 ≤ 2147483648 by omega), ain (show s < 32 by omega) (by omega), tc_n (show s ||| 2 ^ r < 2147483648 by omega), tc_n (show s < 2147483648 by omega), vT _ o5, vT s hsh, x_X6_share_128, nI_1, a_push_s, a_push_n, true_and, and_true, true_implies, false_implies, implies_true, not_true_eq_false, not_false_eq_true, e_10, e_01, e_11, e_00, or_true, true_or, or_false, false_or, and_self, false_and, and_false, Bool.false_eq_true, if_true, if_false]) .null trivial
  refine ⟨T, rT, fun Q => ?_⟩
  have g37 : a_pf S 34 0 0 37 = S 37 := a_pf_row _ _ _ (by decide)
  rw [x_X6_share_0]
  simp only [a_cls_0, a_rf_0_0, a_rf_0_1, a_rf_0_2, a_rf_0_3, a_rf_0_4, a_rf_0_5, a_rf_0_6, a_rf_0_7, a_rf_0_8, a_cls_1, a_rf_1_0, a_len_2, a_get_2, a_cls_3, a_rf_3_0, a_rf_3_1, a_rf_3_2, a_len_4, a_get_4, a_len_5, a_get_5, a_len_6, a_get_6, a_cls_7, a_rf_7_0, a_rf_7_1, a_rf_7_2, a_len_8, a_get_8, a_len_9, a_get_9, a_len_10, a_get_10, a_cls_11, a_rf_11_0, a_rf_11_1, a_rf_11_2, a_len_12, a_get_12, a_len_13, a_get_13, a_len_14, a_get_14, a_cls_15, a_rf_15_0, a_rf_15_1, a_rf_15_2, a_len_16, a_get_16, a_len_17, a_get_17, a_len_18, a_get_18, a_cls_19, a_rf_19_0, a_rf_19_1, a_rf_19_2, a_rf_19_3, a_rf_19_4, a_len_20, a_get_20, a_len_21, a_get_21, a_len_22, a_get_22, a_len_23, a_get_23, a_len_24, a_get_24, a_cls_25, a_rf_25_0, a_rf_25_1, a_rf_25_2, a_rf_25_3, a_len_26, a_get_26, a_len_27, a_get_27, a_len_28, a_get_28, a_len_29, a_get_29, a_cls_30, a_rf_30_0, a_rf_30_1, a_len_31, a_get_31, a_len_32, a_get_32, a_len_33, a_get_33, a_cls_34, a_rf_34_1, a_rf_34_3, a_rf_34_4, a_rf_34_5, a_rf_34_6, a_rf_34_8, a_rf_34_9, a_rf_34_11, a_rf_34_12, a_rf_34_21, a_len_35, a_get_35, a_len_36, a_get_36, a_len_37, a_get_37, a_len_38, a_get_38, a_len_39, a_get_39, a_len_40, a_get_40, a_len_42, a_get_42, a_len_43, a_get_43, a_len_44, a_get_44, a_len_1000, a_get_1000, a_len_1002, a_get_1002, l45, x_X6_share_5, a1, tc_1, g37, hp.1.2.1, c_in, i2l_i, eh, tl_0, bq_t c1', x_X6_share_22, x_X6_share_27, a_push_s, a_push_n, true_and, and_true, true_implies, false_implies, implies_true, not_true_eq_false, not_false_eq_true, e_10, e_01, e_11, e_00, or_true, true_or, or_false, false_or, and_self, false_and, and_false, Bool.false_eq_true, if_true, if_false]
  refine (hX Q).trans ?_
  rw [x_X6_share_30]
  simp only [sh1_all h hh.2, yle rfl (Nat.le_refl (2 ^ h)) (show 2 ^ h < 2147483648 by omega), x_X6_share_57, a_push_s, a_push_n, true_and, and_true, true_implies, false_implies, implies_true, not_true_eq_false, not_false_eq_true, e_10, e_01, e_11, e_00, or_true, true_or, or_false, false_or, and_self, false_and, and_false, Bool.false_eq_true, if_true, if_false]
  refine (hY Q).trans ?_
  rw [x_X6_share_66]
  simp only [sh1_all h hh.2, yle rfl (Nat.le_refl (2 ^ h)) (show 2 ^ h < 2147483648 by omega), x_X6_share_134, lo_all h hh.2 r hr, a_push_s, a_push_n, true_and, and_true, true_implies, false_implies, implies_true, not_true_eq_false, not_false_eq_true, e_10, e_01, e_11, e_00, or_true, true_or, or_false, false_or, and_self, false_and, and_false, Bool.false_eq_true, if_true, if_false]
  obtain ⟨N, hN0, hN, eN⟩ := fact_n h hh.2
  have ur := upF_rng (val := val) (hm := fun s => hmF (rwP (S 37) w h (nI s)) w h k (nI b) 2) hh.2 hr (fun s _ => ⟨by rw [ev], hmF_25 (rwP_ok hp _) _ _ _⟩) (2 ^ h) (Nat.le_refl _)
  rw [eN]
  rw [c_fraction6 _ hN0 (by omega) (by omega), c_fraction6 _ hN0 (by omega) (by omega)]
  simp only [x_X6_share_142, a_push_s, a_push_n, true_and, and_true, true_implies, false_implies, implies_true, not_true_eq_false, not_false_eq_true, e_10, e_01, e_11, e_00, or_true, true_or, or_false, false_or, and_self, false_and, and_false, Bool.false_eq_true, if_true, if_false]
theorem p_share {X N : Nat → Int32} {S : aS} {G : aG} (hI : InvE X N S G) (ro u : Int32) : Pr X N mX5_share mX6_share [.ref 0, .int ro, .int u, .null, .null, .null, .null] [.ref 34, .int ro, .int u, .null, .null, .null, .null, .null] S G := by
  have hI0 := hI
  obtain ⟨w, h, T, nt, nd, b0, b1, ns, hi⟩ := hI
  have hs3 := hi.1.2
  have hp := hi.1.1
  have hW := sh_W hs3 hp
  obtain ⟨hw, hh⟩ := hp.1.2.2
  obtain ⟨k, hk, ek⟩ := hp.2.2.2.2.1
  obtain ⟨b, hb, eb⟩ := hp.2.2.2.2.2.1
  have a1 : a_in 1 67 = True := eq_true (by decide)
  have eh : (nI h - 1).toInt = (h : Int) - 1 := nI_sub1 hh.1 (by omega)
  have h32 : 2 ^ h ≤ 2 ^ 5 := Nat.pow_le_pow_right (by omega) hh.2
  by_cases c1 : 0 ≤ ro.toInt ∧ ro.toInt < (h : Nat)
  · obtain ⟨r, hr, rfl⟩ := nI_back c1.1 c1.2
    obtain ⟨S1, r1, hX1⟩ := c_share5 hs3 hp ek hk eb hb hr u G
    have g37 : S1 37 = S 37 := r1 37 (by omega) (by omega) (by omega)
    obtain ⟨S2, r2, hX2⟩ := c_share6 (S := S1) (w := w) (h := h) (r := r) (k := k) (b := b) (by rw [g37]; exact hp) (by rw [g37]; exact ek) hk (by rw [g37]; exact eb) hr u G
    rw [g37] at hX2
    obtain ⟨M, hM0, hM, eM⟩ := fact_n h hh.2
    have ur := upF_rng (val := fun s => nI (hmF (rwP (S 37) w h (nI s)) w h k (nI b) 2)) (hm := fun s => hmF (rwP (S 37) w h (nI s)) w h k (nI b) 2) hh.2 hr (fun s _ => ⟨rfl, hmF_25 (rwP_ok hp _) _ _ _⟩) (2 ^ h) (Nat.le_refl _)
    refine Pr_q hI0 (.int (frF (upF (fun s => nI (hmF (rwP (S 37) w h (nI s)) w h k (nI b) 2)) h r (2 ^ h)) M u)) S1 S2 (clU_scr r1) (scr_rt r2) (fun Q => ?_) (fun Q => ?_)
    · rw [hX1 Q, eM, c_fraction5 _ hM0 (by omega) (by omega)]
    · rw [hX2 Q, eM, c_fraction6 _ hM0 (by omega) (by omega)]
  · have c1' : ¬ (0 ≤ ro.toInt ∧ ro.toInt ≤ (h : Int) - 1) := by omega
    have g37 : a_pf S 34 0 0 37 = S 37 := a_pf_row _ _ _ (by decide)
    refine Pr_q hI0 (.int (-1)) S (a_pf S 34 0 0) (scr_refl S) (scr_rw (rw6_pf S 0 (Or.inl rfl))) (fun Q => ?_) (fun Q => ?_)
    · rw [x_X5_share_0]
      simp only [a_cls_0, a_rf_0_0, a_rf_0_1, a_rf_0_2, a_rf_0_3, a_rf_0_4, a_rf_0_5, a_rf_0_6, a_rf_0_7, a_rf_0_8, a_cls_1, a_rf_1_0, a_len_2, a_get_2, a_cls_3, a_rf_3_0, a_rf_3_1, a_rf_3_2, a_len_4, a_get_4, a_len_5, a_get_5, a_len_6, a_get_6, a_cls_7, a_rf_7_0, a_rf_7_1, a_rf_7_2, a_len_8, a_get_8, a_len_9, a_get_9, a_len_10, a_get_10, a_cls_11, a_rf_11_0, a_rf_11_1, a_rf_11_2, a_len_12, a_get_12, a_len_13, a_get_13, a_len_14, a_get_14, a_cls_15, a_rf_15_0, a_rf_15_1, a_rf_15_2, a_len_16, a_get_16, a_len_17, a_get_17, a_len_18, a_get_18, a_cls_19, a_rf_19_0, a_rf_19_1, a_rf_19_2, a_rf_19_3, a_rf_19_4, a_len_20, a_get_20, a_len_21, a_get_21, a_len_22, a_get_22, a_len_23, a_get_23, a_len_24, a_get_24, a_cls_25, a_rf_25_0, a_rf_25_1, a_rf_25_2, a_rf_25_3, a_len_26, a_get_26, a_len_27, a_get_27, a_len_28, a_get_28, a_len_29, a_get_29, a_cls_30, a_rf_30_0, a_rf_30_1, a_len_31, a_get_31, a_len_32, a_get_32, a_len_33, a_get_33, a_cls_34, a_rf_34_1, a_rf_34_3, a_rf_34_4, a_rf_34_5, a_rf_34_6, a_rf_34_8, a_rf_34_9, a_rf_34_11, a_rf_34_12, a_rf_34_21, a_len_35, a_get_35, a_len_36, a_get_36, a_len_37, a_get_37, a_len_38, a_get_38, a_len_39, a_get_39, a_len_40, a_get_40, a_len_42, a_get_42, a_len_43, a_get_43, a_len_44, a_get_44, a_len_1000, a_get_1000, a_len_1002, a_get_1002, l45, c_hasRow hW, bq_f c1, x_X5_share_8, x_X5_share_11, a_push_s, a_push_n, true_and, and_true, true_implies, false_implies, implies_true, not_true_eq_false, not_false_eq_true, e_10, e_01, e_11, e_00, or_true, true_or, or_false, false_or, and_self, false_and, and_false, Bool.false_eq_true, if_true, if_false]
    · rw [x_X6_share_0]
      simp only [a_cls_0, a_rf_0_0, a_rf_0_1, a_rf_0_2, a_rf_0_3, a_rf_0_4, a_rf_0_5, a_rf_0_6, a_rf_0_7, a_rf_0_8, a_cls_1, a_rf_1_0, a_len_2, a_get_2, a_cls_3, a_rf_3_0, a_rf_3_1, a_rf_3_2, a_len_4, a_get_4, a_len_5, a_get_5, a_len_6, a_get_6, a_cls_7, a_rf_7_0, a_rf_7_1, a_rf_7_2, a_len_8, a_get_8, a_len_9, a_get_9, a_len_10, a_get_10, a_cls_11, a_rf_11_0, a_rf_11_1, a_rf_11_2, a_len_12, a_get_12, a_len_13, a_get_13, a_len_14, a_get_14, a_cls_15, a_rf_15_0, a_rf_15_1, a_rf_15_2, a_len_16, a_get_16, a_len_17, a_get_17, a_len_18, a_get_18, a_cls_19, a_rf_19_0, a_rf_19_1, a_rf_19_2, a_rf_19_3, a_rf_19_4, a_len_20, a_get_20, a_len_21, a_get_21, a_len_22, a_get_22, a_len_23, a_get_23, a_len_24, a_get_24, a_cls_25, a_rf_25_0, a_rf_25_1, a_rf_25_2, a_rf_25_3, a_len_26, a_get_26, a_len_27, a_get_27, a_len_28, a_get_28, a_len_29, a_get_29, a_cls_30, a_rf_30_0, a_rf_30_1, a_len_31, a_get_31, a_len_32, a_get_32, a_len_33, a_get_33, a_cls_34, a_rf_34_1, a_rf_34_3, a_rf_34_4, a_rf_34_5, a_rf_34_6, a_rf_34_8, a_rf_34_9, a_rf_34_11, a_rf_34_12, a_rf_34_21, a_len_35, a_get_35, a_len_36, a_get_36, a_len_37, a_get_37, a_len_38, a_get_38, a_len_39, a_get_39, a_len_40, a_get_40, a_len_42, a_get_42, a_len_43, a_get_43, a_len_44, a_get_44, a_len_1000, a_get_1000, a_len_1002, a_get_1002, l45, x_X6_share_5, a1, tc_1, g37, hp.1.2.1, c_in, i2l_i, eh, tl_0, bq_f c1', x_X6_share_22, x_X6_share_25, a_push_s, a_push_n, true_and, and_true, true_implies, false_implies, implies_true, not_true_eq_false, not_false_eq_true, e_10, e_01, e_11, e_00, or_true, true_or, or_false, false_or, and_self, false_and, and_false, Bool.false_eq_true, if_true, if_false]
