/-! PAIRS: bleached -/
theorem and1_bt (x : Int32) : x &&& 1 = 1 ↔ bt x 0 = true := by
  constructor
  · intro h
    have : bt (x &&& 1) 0 = bt 1 0 := by rw [h]
    rw [b_and, b_one] at this
    simpa using this
  · intro h
    apply b_ext
    intro i hi
    rw [b_and, b_one]
    by_cases c : i = 0
    · subst c; simp [h]
    · simp [c]
theorem has_bt (m : Int32) {c : Nat} (hc : c < 32) : ((m >>> (nI c &&& 31)) &&& 1 = 1) ↔ bt m c = true := by
  rw [and1_bt, b_sshr c hc m (by omega), if_pos (by omega), Nat.add_zero]
theorem and_bt (m : Int32) {c : Nat} (hc : c < 32) : m &&& ((1 : Int32) <<< (nI c &&& 31)) = 0 ↔ bt m c = false := by
  constructor
  · intro h
    have : bt (m &&& ((1 : Int32) <<< (nI c &&& 31))) c = bt 0 c := by rw [h]
    rw [b_and, b_1shl hc hc, b_0] at this
    simpa using this
  · intro h
    apply b_ext
    intro i hi
    rw [b_and, b_1shl hc hi, b_0]
    by_cases q : i = c
    · subst q; simp [h]
    · simp [q]
theorem fpF_eq {p f g : Nat → Int32} {n : Nat} (h : ∀ d, d < n → f d = g d) : fpF p f n = fpF p g n := by
  funext j
  unfold fpF
  by_cases c : 2 ≤ j ∧ j < 2 + n
  · rw [if_pos c, if_pos c]; exact h _ (by omega)
  · rw [if_neg c, if_neg c]
/-- a page with some columns of a row bleached -/
def blP (p : Nat → Int32) (w h r : Nat) (m : Int32) : Nat → Int32 := fpF p (fun d => if (r * w ≤ d ∧ d < r * w + w) ∧ bt m (d - r * w) = true then 9 else p (2 + d)) (w * h)
theorem blP_ok {p : Nat → Int32} {w h : Nat} (hp : pOk p w h) (r : Nat) (m : Int32) : pOk (blP p w h r m) w h := pOk_fp hp fun d hd => by
  by_cases c : (r * w ≤ d ∧ d < r * w + w) ∧ bt m (d - r * w) = true
  · exact ⟨9, by omega, by rw [if_pos c]; rfl⟩
  · rw [if_neg c]; exact hp.2.1 d hd
theorem blP_53 {p : Nat → Int32} {w h : Nat} (hp : pOk p w h) (r : Nat) (m : Int32) : blP p w h r m 53 = p 53 ∧ blP p w h r m 54 = p 54 := by
  have hn := pOk_n hp
  exact ⟨fpF_out (by omega), fpF_out (by omega)⟩
theorem c_iwb {S : aS} {w h r k b : Nat} {p : Nat → Int32} (hs : sh S 3 p w h) (hp : pOk p w h) (hk : p 53 = nI k) (hk2 : k ≤ 2) (hb : p 54 = nI b) (hb2 : b ≤ 9) (hr : r < h) (m : Int32) (G : aG) : ∃ S', clT S S' ∧ ∀ Q, (aX mX5_inkWhenBleached 0 [.ref 0, .int (nI r), .int m] [] S G Q ↔ Q (some (.int (nI (hmF (blP p w h r m) w h k (nI b) 2)))) S' G) := by
  have hn := pOk_n hp
  obtain ⟨S1, a1, a2, a3⟩ := c_copyFrom sha7 hs.1 (by decide) S G
  have s1 := a2 _ _ _ hp hs
  obtain ⟨S2, e2⟩ : ∃ S2, S2 = a_wr S1 (7 + 1) (whF (S1 (7 + 1)) w r m w) := ⟨_, rfl⟩
  have s2 : sh S2 7 (blP p w h r m) w h := by
    have := sh_fp (whF (S1 (7 + 1)) w r m w) s1 hp
    rw [← e2] at this
    rw [show blP p w h r m = fpF p (whF (S1 (7 + 1)) w r m w) (w * h) from fpF_eq (fun d hd => by
      unfold whF
      have : d < 25 := by omega
      by_cases c : r * w ≤ d ∧ d < r * w + w
      · have q := and_bt m (c := d - r * w) (by omega)
        by_cases z : bt m (d - r * w) = true
        · rw [if_pos ⟨c, z⟩, if_pos ⟨c, fun y => by rw [q.mp y] at z; exact absurd z (by decide)⟩]
        · rw [if_neg (fun y => z y.2), if_neg (fun y => y.2 (q.mpr (by simpa using z))), s1.2.2.2.1 d hd]
      · rw [if_neg (fun y => c y.1), if_neg (fun y => c y.1), s1.2.2.2.1 d hd])]
    exact this
  have o := blP_53 hp r m
  obtain ⟨S3, r3, hX3⟩ := c_howMany s2 (blP_ok hp r m) (o.1.trans hk) hk2 (o.2.trans hb) hb2 2 G
  refine ⟨S3, clT_trans (clT_7 (shR_trans a1 (by rw [e2]; exact shR_fp S1 7 _))) (clT_ey r3), fun Q => ?_⟩
  simp only [x_X5_inkWhenBleached_0, x_X5_inkWhenBleached_11, x_X5_inkWhenBleached_20, x_X5_inkWhenBleached_32, a_cls_0, a_rf_0_0, a_rf_0_1, a_rf_0_2, a_rf_0_3, a_rf_0_4, a_rf_0_5, a_rf_0_6, a_rf_0_7, a_rf_0_8, a_cls_1, a_rf_1_0, a_len_2, a_get_2, a_cls_3, a_rf_3_0, a_rf_3_1, a_rf_3_2, a_len_4, a_get_4, a_len_5, a_get_5, a_len_6, a_get_6, a_cls_7, a_rf_7_0, a_rf_7_1, a_rf_7_2, a_len_8, a_get_8, a_len_9, a_get_9, a_len_10, a_get_10, a_cls_11, a_rf_11_0, a_rf_11_1, a_rf_11_2, a_len_12, a_get_12, a_len_13, a_get_13, a_len_14, a_get_14, a_cls_15, a_rf_15_0, a_rf_15_1, a_rf_15_2, a_len_16, a_get_16, a_len_17, a_get_17, a_len_18, a_get_18, a_cls_19, a_rf_19_0, a_rf_19_1, a_rf_19_2, a_rf_19_3, a_rf_19_4, a_len_20, a_get_20, a_len_21, a_get_21, a_len_22, a_get_22, a_len_23, a_get_23, a_len_24, a_get_24, a_cls_25, a_rf_25_0, a_rf_25_1, a_rf_25_2, a_rf_25_3, a_len_26, a_get_26, a_len_27, a_get_27, a_len_28, a_get_28, a_len_29, a_get_29, a_cls_30, a_rf_30_0, a_rf_30_1, a_len_31, a_get_31, a_len_32, a_get_32, a_len_33, a_get_33, a_cls_34, a_rf_34_1, a_rf_34_3, a_rf_34_4, a_rf_34_5, a_rf_34_6, a_rf_34_8, a_rf_34_9, a_rf_34_11, a_rf_34_12, a_rf_34_21, a_len_35, a_get_35, a_len_36, a_get_36, a_len_37, a_get_37, a_len_38, a_get_38, a_len_39, a_get_39, a_len_40, a_get_40, a_len_42, a_get_42, a_len_43, a_get_43, a_len_44, a_get_44, a_len_1000, a_get_1000, a_len_1002, a_get_1002, l45, a3, c_whiten (sh_W s1 hp) hr, ← e2, hX3, a_push_s, a_push_n, true_and, and_true, true_implies, false_implies, implies_true, not_true_eq_false, not_false_eq_true, e_10, e_01, e_11, e_00, or_true, true_or, or_false, false_or, and_self, false_and, and_false, Bool.false_eq_true, if_true, if_false]
theorem sh1_all : ∀ w, w ≤ 5 → (1 : Int32) <<< (nI w &&& 31) = nI (2 ^ w) := by decide +kernel
theorem cnt_w {s w : Nat} (hs : s < 2 ^ w) (hw : w ≤ 5) : cntN s 32 = cntN s 25 ∧ cntN s 25 ≤ w := by
  have h1 := cntN_high hs (32 - w)
  have h2 := cntN_high hs (25 - w)
  rw [show w + (32 - w) = 32 by omega] at h1
  rw [show w + (25 - w) = 25 by omega] at h2
  have := cntN_le s w
  omega
/-- the chance, added up -/
def chF (hm : Nat → Nat) (v x y : Int32) (w n : Nat) : Int32 := it (fun s a => if nI (hm s) < v then a else a + pwF x (cntN s 25) * pwF y (w - cntN s 25)) 0 n
theorem pwF_n (x : Nat) : ∀ n, pwF (nI x) n = nI (x ^ n)
  | 0 => rfl
  | n + 1 => by
    have e : pwF (nI x) (n + 1) = pwF (nI x) n * nI x := rfl
    rw [e, pwF_n x n, pk_mul, Nat.pow_succ]
theorem pow10 {x w : Nat} (hx : x ≤ 10) (hw : w ≤ 5) : x ^ w ≤ 100000 := Nat.le_trans (Nat.pow_le_pow_left hx w) (Nat.pow_le_pow_right (by omega) hw)
theorem chF_rng {hm : Nat → Nat} {v : Int32} {x w : Nat} (hx : x ≤ 10) (hw : w ≤ 5) : ∀ n, n ≤ 2 ^ w → ∃ A, A ≤ n * 100000 ∧ chF hm v (nI x) (nI (10 - x)) w n = nI A
  | 0, _ => ⟨0, Nat.zero_le _, rfl⟩
  | n + 1, hn => by
    obtain ⟨A, hA, e⟩ := chF_rng (hm := hm) (v := v) hx hw n (by omega)
    have es : chF hm v (nI x) (nI (10 - x)) w (n + 1) = if nI (hm n) < v then chF hm v (nI x) (nI (10 - x)) w n else chF hm v (nI x) (nI (10 - x)) w n + pwF (nI x) (cntN n 25) * pwF (nI (10 - x)) (w - cntN n 25) := rfl
    rw [es]
    split
    · exact ⟨A, Nat.le_trans hA (Nat.mul_le_mul_right _ (Nat.le_succ n)), e⟩
    · rw [e, pwF_n, pwF_n, pk_mul, nI_add]
      refine ⟨_, ?_, rfl⟩
      have hc := (cnt_w (s := n) (w := w) (by omega) hw).2
      have h1 : x ^ cntN n 25 * (10 - x) ^ (w - cntN n 25) ≤ 10 ^ cntN n 25 * 10 ^ (w - cntN n 25) := Nat.mul_le_mul (Nat.pow_le_pow_left hx _) (Nat.pow_le_pow_left (by omega) _)
      rw [← Nat.pow_add, show cntN n 25 + (w - cntN n 25) = w by omega] at h1
      have := pow10 (x := 10) (w := w) (by omega) hw
      omega
theorem c_bleach5 {S : aS} {w h r k b : Nat} {p : Nat → Int32} (hs : sh S 3 p w h) (hp : pOk p w h) (hk : p 53 = nI k) (hk2 : k ≤ 2) (hb : p 54 = nI b) (hb2 : b ≤ 9) (hr : r < h) (v x u : Int32) (G : aG) : ∃ (S' : aS) (v8 : Value), clT S S' ∧ ∀ Q, (aX mX5_bleached 51 [.ref 0, .int (nI r), .int v, .int x, .int u, .int (nI w), .int 0, .int 0, .null] [] S G Q ↔ aX mX5_bleached 108 [.ref 0, .int (nI r), .int v, .int x, .int u, .int (nI w), .int (chF (fun s => hmF (blP p w h r (nI s)) w h k (nI b) 2) v x (10 - x) w (2 ^ w)), .int (nI (2 ^ w)), v8] [] S' G Q) := by
  obtain ⟨hw, hh⟩ := hp.1.2.2
  have h32 : 2 ^ w ≤ 2 ^ 5 := Nat.pow_le_pow_right (by omega) hw.2
  obtain ⟨hm, ehm⟩ : ∃ hm : Nat → Nat, hm = fun s => hmF (blP p w h r (nI s)) w h k (nI b) 2 := ⟨_, rfl⟩
  rw [← ehm]
  obtain ⟨t, hT, hX⟩ := lpx (τ := aS × Value) (P := fun s t Q => aX mX5_bleached 51 [.ref 0, .int (nI r), .int v, .int x, .int u, .int (nI w), .int (chF hm v x (10 - x) w s), .int (nI s), t.2] [] t.1 G Q) (I := fun _ t => clT S t.1) (Nat.zero_le (2 ^ w)) (fun s t _ hsw hT => by
    have hs3 : sh t.1 3 p w h := sh_cells hs (hT 3 (by omega) (by omega)) (hT 4 (by omega) (by omega)) (hT 5 (by omega) (by omega)) (hT 6 (by omega) (by omega))
    obtain ⟨S1, r1, hX1⟩ := c_iwb hs3 hp hk hk2 hb hb2 hr (nI s) G
    have e : hmF (blP p w h r (nI s)) w h k (nI b) 2 = hm s := by rw [ehm]
    rw [e] at hX1
    have hc := cnt_w hsw hw.2
    have es : chF hm v x (10 - x) w (s + 1) = if nI (hm s) < v then chF hm v x (10 - x) w s else chF hm v x (10 - x) w s + pwF x (cntN s 25) * pwF (10 - x) (w - cntN s 25) := rfl
    rw [es]
    by_cases c : nI (hm s) < v
    · refine ⟨(S1, t.2), clT_trans hT r1, fun Q => ?_⟩
      rw [x_X5_bleached_51]
      simp only [sh1_all w hw.2, nle rfl hsw (show 2 ^ w < 2147483648 by omega), x_X5_bleached_60, a_cls_0, a_rf_0_0, a_rf_0_1, a_rf_0_2, a_rf_0_3, a_rf_0_4, a_rf_0_5, a_rf_0_6, a_rf_0_7, a_rf_0_8, a_cls_1, a_rf_1_0, a_len_2, a_get_2, a_cls_3, a_rf_3_0, a_rf_3_1, a_rf_3_2, a_len_4, a_get_4, a_len_5, a_get_5, a_len_6, a_get_6, a_cls_7, a_rf_7_0, a_rf_7_1, a_rf_7_2, a_len_8, a_get_8, a_len_9, a_get_9, a_len_10, a_get_10, a_cls_11, a_rf_11_0, a_rf_11_1, a_rf_11_2, a_len_12, a_get_12, a_len_13, a_get_13, a_len_14, a_get_14, a_cls_15, a_rf_15_0, a_rf_15_1, a_rf_15_2, a_len_16, a_get_16, a_len_17, a_get_17, a_len_18, a_get_18, a_cls_19, a_rf_19_0, a_rf_19_1, a_rf_19_2, a_rf_19_3, a_rf_19_4, a_len_20, a_get_20, a_len_21, a_get_21, a_len_22, a_get_22, a_len_23, a_get_23, a_len_24, a_get_24, a_cls_25, a_rf_25_0, a_rf_25_1, a_rf_25_2, a_rf_25_3, a_len_26, a_get_26, a_len_27, a_get_27, a_len_28, a_get_28, a_len_29, a_get_29, a_cls_30, a_rf_30_0, a_rf_30_1, a_len_31, a_get_31, a_len_32, a_get_32, a_len_33, a_get_33, a_cls_34, a_rf_34_1, a_rf_34_3, a_rf_34_4, a_rf_34_5, a_rf_34_6, a_rf_34_8, a_rf_34_9, a_rf_34_11, a_rf_34_12, a_rf_34_21, a_len_35, a_get_35, a_len_36, a_get_36, a_len_37, a_get_37, a_len_38, a_get_38, a_len_39, a_get_39, a_len_40, a_get_40, a_len_42, a_get_42, a_len_43, a_get_43, a_len_44, a_get_44, a_len_1000, a_get_1000, a_len_1002, a_get_1002, l45, hX1, x_X5_bleached_67, c, x_X5_bleached_102, nI_1, a_push_s, a_push_n, true_and, and_true, true_implies, false_implies, implies_true, not_true_eq_false, not_false_eq_true, e_10, e_01, e_11, e_00, or_true, true_or, or_false, false_or, and_self, false_and, and_false, Bool.false_eq_true, if_true, if_false]
    · refine ⟨(S1, .int (nI (cntN s 25))), clT_trans hT r1, fun Q => ?_⟩
      rw [x_X5_bleached_51]
      simp only [sh1_all w hw.2, nle rfl hsw (show 2 ^ w < 2147483648 by omega), x_X5_bleached_60, a_cls_0, a_rf_0_0, a_rf_0_1, a_rf_0_2, a_rf_0_3, a_rf_0_4, a_rf_0_5, a_rf_0_6, a_rf_0_7, a_rf_0_8, a_cls_1, a_rf_1_0, a_len_2, a_get_2, a_cls_3, a_rf_3_0, a_rf_3_1, a_rf_3_2, a_len_4, a_get_4, a_len_5, a_get_5, a_len_6, a_get_6, a_cls_7, a_rf_7_0, a_rf_7_1, a_rf_7_2, a_len_8, a_get_8, a_len_9, a_get_9, a_len_10, a_get_10, a_cls_11, a_rf_11_0, a_rf_11_1, a_rf_11_2, a_len_12, a_get_12, a_len_13, a_get_13, a_len_14, a_get_14, a_cls_15, a_rf_15_0, a_rf_15_1, a_rf_15_2, a_len_16, a_get_16, a_len_17, a_get_17, a_len_18, a_get_18, a_cls_19, a_rf_19_0, a_rf_19_1, a_rf_19_2, a_rf_19_3, a_rf_19_4, a_len_20, a_get_20, a_len_21, a_get_21, a_len_22, a_get_22, a_len_23, a_get_23, a_len_24, a_get_24, a_cls_25, a_rf_25_0, a_rf_25_1, a_rf_25_2, a_rf_25_3, a_len_26, a_get_26, a_len_27, a_get_27, a_len_28, a_get_28, a_len_29, a_get_29, a_cls_30, a_rf_30_0, a_rf_30_1, a_len_31, a_get_31, a_len_32, a_get_32, a_len_33, a_get_33, a_cls_34, a_rf_34_1, a_rf_34_3, a_rf_34_4, a_rf_34_5, a_rf_34_6, a_rf_34_8, a_rf_34_9, a_rf_34_11, a_rf_34_12, a_rf_34_21, a_len_35, a_get_35, a_len_36, a_get_36, a_len_37, a_get_37, a_len_38, a_get_38, a_len_39, a_get_39, a_len_40, a_get_40, a_len_42, a_get_42, a_len_43, a_get_43, a_len_44, a_get_44, a_len_1000, a_get_1000, a_len_1002, a_get_1002, l45, hX1, x_X5_bleached_67, c, x_X5_bleached_71, c_bitCount (show s < 2 ^ 31 by omega), hc.1, x_X5_bleached_76, c_power5 x (show cntN s 25 < 1000 by omega), x_X5_bleached_86, pk_sub hc.2, c_power5 (10 - x) (show w - cntN s 25 < 1000 by omega), x_X5_bleached_98, x_X5_bleached_102, nI_1, a_push_s, a_push_n, true_and, and_true, true_implies, false_implies, implies_true, not_true_eq_false, not_false_eq_true, e_10, e_01, e_11, e_00, or_true, true_or, or_false, false_or, and_self, false_and, and_false, Bool.false_eq_true, if_true, if_false]) (S, .null) (clT_refl S)
  refine ⟨t.1, t.2, hT, fun Q => (hX Q).trans ?_⟩
  rw [x_X5_bleached_51]
  simp only [sh1_all w hw.2, yle rfl (Nat.le_refl (2 ^ w)) (show 2 ^ w < 2147483648 by omega), a_push_s, a_push_n, true_and, and_true, true_implies, false_implies, implies_true, not_true_eq_false, not_false_eq_true, e_10, e_01, e_11, e_00, or_true, true_or, or_false, false_or, and_self, false_and, and_false, Bool.false_eq_true, if_true, if_false]
/-- the reference's page of one bleaching -/
theorem c_blPage {S : aS} {w h r : Nat} (hp : pOk (S 37) w h) (hr : r < h) (m : Int32) (v x u a : Int32) (v8 v9 : Value) (G : aG) : ∃ (S' : aS) (v9' : Value), (∀ c, c ≠ 38 → S' c = S c) ∧ eqP (S' 38) (blP (S 37) w h r m) ∧ ∀ Q, (aX mX6_bleached 75 [.ref 34, .int (nI r), .int v, .int x, .int u, .int (nI w), .int a, .int m, v8, v9] [] S G Q ↔ aX mX6_bleached 135 [.ref 34, .int (nI r), .int v, .int x, .int u, .int (nI w), .int a, .int m, .int (nI w), v9'] [] S' G Q) := by
  have hn := pOk_n hp
  obtain ⟨hw, hh⟩ := hp.1.2.2
  have hrw : r * w + w ≤ w * h := by
    have : (r + 1) * w ≤ h * w := Nat.mul_le_mul_right w hr
    rw [Nat.succ_mul] at this
    rw [Nat.mul_comm w h]; exact this
  obtain ⟨t, ⟨hT, hT38⟩, hX⟩ := lpx (τ := aS × Value) (P := fun c t Q => aX mX6_bleached 82 [.ref 34, .int (nI r), .int v, .int x, .int u, .int (nI w), .int a, .int m, .int (nI c), t.2] [] t.1 G Q) (I := fun c t => (∀ k, k ≠ 38 → t.1 k = S k) ∧ (∀ j, j < 67 → t.1 38 j = if (2 + r * w ≤ j ∧ j < 2 + r * w + c) ∧ bt m (j - (2 + r * w)) = true then 9 else S 37 j)) (Nat.zero_le w) (fun c t _ hc hI => by
    obtain ⟨hT, hT38⟩ := hI
    have ei : 2 + nI w * nI r + nI c = nI (2 + r * w + c) := by rw [pk_mul, add_2, nI_add, Nat.mul_comm w r]
    have hb := has_bt m (c := c) (by omega)
    have hc38 : t.1 38 (2 + r * w + c) = S 37 (2 + r * w + c) := by rw [hT38 _ (by omega), if_neg (by omega)]
    have hI2 : (∀ k, k ≠ 38 → (a_pf t.1 38 (2 + r * w + c) (if bt m c = true then 9 else S 37 (2 + r * w + c))) k = S k) ∧ (∀ j, j < 67 → (a_pf t.1 38 (2 + r * w + c) (if bt m c = true then 9 else S 37 (2 + r * w + c))) 38 j = if (2 + r * w ≤ j ∧ j < 2 + r * w + (c + 1)) ∧ bt m (j - (2 + r * w)) = true then 9 else S 37 j) := by
      refine ⟨fun k hk => by rw [a_pf_row _ _ _ hk, hT k hk], fun j hj => ?_⟩
      by_cases q : j = 2 + r * w + c
      · subst q
        rw [a_pf_same, Nat.add_sub_cancel_left]
        by_cases z : bt m c = true
        · rw [if_pos z, if_pos ⟨by omega, z⟩]
        · rw [if_neg z, if_neg (fun y => z y.2)]
      · rw [a_pf_ne _ _ _ q, hT38 j hj]
        by_cases z : 2 + r * w ≤ j ∧ j < 2 + r * w + c
        · simp only [z, show 2 + r * w ≤ j ∧ j < 2 + r * w + (c + 1) by omega, true_and, and_self]
        · simp only [z, show ¬ (2 + r * w ≤ j ∧ j < 2 + r * w + (c + 1)) by omega, false_and]
    refine ⟨(a_pf t.1 38 (2 + r * w + c) (if bt m c = true then 9 else S 37 (2 + r * w + c)), .int (nI (2 + r * w + c))), hI2, fun Q => ?_⟩
    refine (x_X6_bleached_82 _ _ _ _ _ _ _ _ _ _ _ G Q).trans ?_
    simp only [nle rfl hc (show w < 2147483648 by omega), x_X6_bleached_89, a_cls_0, a_rf_0_0, a_rf_0_1, a_rf_0_2, a_rf_0_3, a_rf_0_4, a_rf_0_5, a_rf_0_6, a_rf_0_7, a_rf_0_8, a_cls_1, a_rf_1_0, a_len_2, a_get_2, a_cls_3, a_rf_3_0, a_rf_3_1, a_rf_3_2, a_len_4, a_get_4, a_len_5, a_get_5, a_len_6, a_get_6, a_cls_7, a_rf_7_0, a_rf_7_1, a_rf_7_2, a_len_8, a_get_8, a_len_9, a_get_9, a_len_10, a_get_10, a_cls_11, a_rf_11_0, a_rf_11_1, a_rf_11_2, a_len_12, a_get_12, a_len_13, a_get_13, a_len_14, a_get_14, a_cls_15, a_rf_15_0, a_rf_15_1, a_rf_15_2, a_len_16, a_get_16, a_len_17, a_get_17, a_len_18, a_get_18, a_cls_19, a_rf_19_0, a_rf_19_1, a_rf_19_2, a_rf_19_3, a_rf_19_4, a_len_20, a_get_20, a_len_21, a_get_21, a_len_22, a_get_22, a_len_23, a_get_23, a_len_24, a_get_24, a_cls_25, a_rf_25_0, a_rf_25_1, a_rf_25_2, a_rf_25_3, a_len_26, a_get_26, a_len_27, a_get_27, a_len_28, a_get_28, a_len_29, a_get_29, a_cls_30, a_rf_30_0, a_rf_30_1, a_len_31, a_get_31, a_len_32, a_get_32, a_len_33, a_get_33, a_cls_34, a_rf_34_1, a_rf_34_3, a_rf_34_4, a_rf_34_5, a_rf_34_6, a_rf_34_8, a_rf_34_9, a_rf_34_11, a_rf_34_12, a_rf_34_21, a_len_35, a_get_35, a_len_36, a_get_36, a_len_37, a_get_37, a_len_38, a_get_38, a_len_39, a_get_39, a_len_40, a_get_40, a_len_42, a_get_42, a_len_43, a_get_43, a_len_44, a_get_44, a_len_1000, a_get_1000, a_len_1002, a_get_1002, l45, ei, c_has6, a_push_s, a_push_n, true_and, and_true, true_implies, false_implies, implies_true, not_true_eq_false, not_false_eq_true, e_10, e_01, e_11, e_00, or_true, true_or, or_false, false_or, and_self, false_and, and_false, Bool.false_eq_true, if_true, if_false]
    by_cases z : bt m c = true
    · simp only [bq_t (hb.mpr z), x_X6_bleached_113, x_X6_bleached_116, x_X6_bleached_128, x_X6_bleached_129, a_cls_0, a_rf_0_0, a_rf_0_1, a_rf_0_2, a_rf_0_3, a_rf_0_4, a_rf_0_5, a_rf_0_6, a_rf_0_7, a_rf_0_8, a_cls_1, a_rf_1_0, a_len_2, a_get_2, a_cls_3, a_rf_3_0, a_rf_3_1, a_rf_3_2, a_len_4, a_get_4, a_len_5, a_get_5, a_len_6, a_get_6, a_cls_7, a_rf_7_0, a_rf_7_1, a_rf_7_2, a_len_8, a_get_8, a_len_9, a_get_9, a_len_10, a_get_10, a_cls_11, a_rf_11_0, a_rf_11_1, a_rf_11_2, a_len_12, a_get_12, a_len_13, a_get_13, a_len_14, a_get_14, a_cls_15, a_rf_15_0, a_rf_15_1, a_rf_15_2, a_len_16, a_get_16, a_len_17, a_get_17, a_len_18, a_get_18, a_cls_19, a_rf_19_0, a_rf_19_1, a_rf_19_2, a_rf_19_3, a_rf_19_4, a_len_20, a_get_20, a_len_21, a_get_21, a_len_22, a_get_22, a_len_23, a_get_23, a_len_24, a_get_24, a_cls_25, a_rf_25_0, a_rf_25_1, a_rf_25_2, a_rf_25_3, a_len_26, a_get_26, a_len_27, a_get_27, a_len_28, a_get_28, a_len_29, a_get_29, a_cls_30, a_rf_30_0, a_rf_30_1, a_len_31, a_get_31, a_len_32, a_get_32, a_len_33, a_get_33, a_cls_34, a_rf_34_1, a_rf_34_3, a_rf_34_4, a_rf_34_5, a_rf_34_6, a_rf_34_8, a_rf_34_9, a_rf_34_11, a_rf_34_12, a_rf_34_21, a_len_35, a_get_35, a_len_36, a_get_36, a_len_37, a_get_37, a_len_38, a_get_38, a_len_39, a_get_39, a_len_40, a_get_40, a_len_42, a_get_42, a_len_43, a_get_43, a_len_44, a_get_44, a_len_1000, a_get_1000, a_len_1002, a_get_1002, l45, ain (show 2 + r * w + c < 67 by omega) (by omega), tc_n (show 2 + r * w + c < 2147483648 by omega), z, nI_1, show (38 < 45) = True by decide, a_push_s, a_push_n, true_and, and_true, true_implies, false_implies, implies_true, not_true_eq_false, not_false_eq_true, e_10, e_01, e_11, e_00, or_true, true_or, or_false, false_or, and_self, false_and, and_false, Bool.false_eq_true, if_true, if_false]
    · simp only [bq_f (fun y => z (hb.mp y)), x_X6_bleached_113, x_X6_bleached_121, x_X6_bleached_128, x_X6_bleached_129, a_cls_0, a_rf_0_0, a_rf_0_1, a_rf_0_2, a_rf_0_3, a_rf_0_4, a_rf_0_5, a_rf_0_6, a_rf_0_7, a_rf_0_8, a_cls_1, a_rf_1_0, a_len_2, a_get_2, a_cls_3, a_rf_3_0, a_rf_3_1, a_rf_3_2, a_len_4, a_get_4, a_len_5, a_get_5, a_len_6, a_get_6, a_cls_7, a_rf_7_0, a_rf_7_1, a_rf_7_2, a_len_8, a_get_8, a_len_9, a_get_9, a_len_10, a_get_10, a_cls_11, a_rf_11_0, a_rf_11_1, a_rf_11_2, a_len_12, a_get_12, a_len_13, a_get_13, a_len_14, a_get_14, a_cls_15, a_rf_15_0, a_rf_15_1, a_rf_15_2, a_len_16, a_get_16, a_len_17, a_get_17, a_len_18, a_get_18, a_cls_19, a_rf_19_0, a_rf_19_1, a_rf_19_2, a_rf_19_3, a_rf_19_4, a_len_20, a_get_20, a_len_21, a_get_21, a_len_22, a_get_22, a_len_23, a_get_23, a_len_24, a_get_24, a_cls_25, a_rf_25_0, a_rf_25_1, a_rf_25_2, a_rf_25_3, a_len_26, a_get_26, a_len_27, a_get_27, a_len_28, a_get_28, a_len_29, a_get_29, a_cls_30, a_rf_30_0, a_rf_30_1, a_len_31, a_get_31, a_len_32, a_get_32, a_len_33, a_get_33, a_cls_34, a_rf_34_1, a_rf_34_3, a_rf_34_4, a_rf_34_5, a_rf_34_6, a_rf_34_8, a_rf_34_9, a_rf_34_11, a_rf_34_12, a_rf_34_21, a_len_35, a_get_35, a_len_36, a_get_36, a_len_37, a_get_37, a_len_38, a_get_38, a_len_39, a_get_39, a_len_40, a_get_40, a_len_42, a_get_42, a_len_43, a_get_43, a_len_44, a_get_44, a_len_1000, a_get_1000, a_len_1002, a_get_1002, l45, ain (show 2 + r * w + c < 67 by omega) (by omega), tc_n (show 2 + r * w + c < 2147483648 by omega), hc38, z, nI_1, show (38 < 45) = True by decide, a_push_s, a_push_n, true_and, and_true, true_implies, false_implies, implies_true, not_true_eq_false, not_false_eq_true, e_10, e_01, e_11, e_00, or_true, true_or, or_false, false_or, and_self, false_and, and_false, Bool.false_eq_true, if_true, if_false]) (cpR S 38 (S 37) 0 67, v9) ⟨fun k hk => cpR_row _ _ _ _ hk, fun j hj => by rw [if_neg (by omega)]; exact cpR_in S 38 (S 37) (by omega)⟩
  refine ⟨t.1, t.2, hT, fun j hj => ?_, fun Q => ?_⟩
  · rw [hT38 j hj]
    unfold blP fpF
    by_cases q : 2 ≤ j ∧ j < 2 + w * h
    · rw [if_pos q]
      show _ = if (r * w ≤ j - 2 ∧ j - 2 < r * w + w) ∧ bt m (j - 2 - r * w) = true then 9 else S 37 (2 + (j - 2))
      by_cases z : (2 + r * w ≤ j ∧ j < 2 + r * w + w) ∧ bt m (j - (2 + r * w)) = true
      · rw [if_pos z, if_pos ⟨by omega, by rw [show j - 2 - r * w = j - (2 + r * w) by omega]; exact z.2⟩]
      · rw [if_neg z, if_neg (fun y => z ⟨by omega, by rw [show j - (2 + r * w) = j - 2 - r * w by omega]; exact y.2⟩), show 2 + (j - 2) = j by omega]
    · rw [if_neg q, if_neg (by omega)]
  · rw [x_X6_bleached_75]
    simp only [a_cls_0, a_rf_0_0, a_rf_0_1, a_rf_0_2, a_rf_0_3, a_rf_0_4, a_rf_0_5, a_rf_0_6, a_rf_0_7, a_rf_0_8, a_cls_1, a_rf_1_0, a_len_2, a_get_2, a_cls_3, a_rf_3_0, a_rf_3_1, a_rf_3_2, a_len_4, a_get_4, a_len_5, a_get_5, a_len_6, a_get_6, a_cls_7, a_rf_7_0, a_rf_7_1, a_rf_7_2, a_len_8, a_get_8, a_len_9, a_get_9, a_len_10, a_get_10, a_cls_11, a_rf_11_0, a_rf_11_1, a_rf_11_2, a_len_12, a_get_12, a_len_13, a_get_13, a_len_14, a_get_14, a_cls_15, a_rf_15_0, a_rf_15_1, a_rf_15_2, a_len_16, a_get_16, a_len_17, a_get_17, a_len_18, a_get_18, a_cls_19, a_rf_19_0, a_rf_19_1, a_rf_19_2, a_rf_19_3, a_rf_19_4, a_len_20, a_get_20, a_len_21, a_get_21, a_len_22, a_get_22, a_len_23, a_get_23, a_len_24, a_get_24, a_cls_25, a_rf_25_0, a_rf_25_1, a_rf_25_2, a_rf_25_3, a_len_26, a_get_26, a_len_27, a_get_27, a_len_28, a_get_28, a_len_29, a_get_29, a_cls_30, a_rf_30_0, a_rf_30_1, a_len_31, a_get_31, a_len_32, a_get_32, a_len_33, a_get_33, a_cls_34, a_rf_34_1, a_rf_34_3, a_rf_34_4, a_rf_34_5, a_rf_34_6, a_rf_34_8, a_rf_34_9, a_rf_34_11, a_rf_34_12, a_rf_34_21, a_len_35, a_get_35, a_len_36, a_get_36, a_len_37, a_get_37, a_len_38, a_get_38, a_len_39, a_get_39, a_len_40, a_get_40, a_len_42, a_get_42, a_len_43, a_get_43, a_len_44, a_get_44, a_len_1000, a_get_1000, a_len_1002, a_get_1002, l45, c_begin, x_X6_bleached_79, a_push_s, a_push_n, true_and, and_true, true_implies, false_implies, implies_true, not_true_eq_false, not_false_eq_true, e_10, e_01, e_11, e_00, or_true, true_or, or_false, false_or, and_self, false_and, and_false, Bool.false_eq_true, if_true, if_false]
    refine (hX Q).trans ?_
    rw [x_X6_bleached_82]
    simp only [yle rfl (Nat.le_refl w) (show w < 2147483648 by omega), a_push_s, a_push_n, true_and, and_true, true_implies, false_implies, implies_true, not_true_eq_false, not_false_eq_true, e_10, e_01, e_11, e_00, or_true, true_or, or_false, false_or, and_self, false_and, and_false, Bool.false_eq_true, if_true, if_false]
theorem c_bleach6 {S : aS} {w h r k b : Nat} (hp : pOk (S 37) w h) (hk : S 37 53 = nI k) (hk2 : k ≤ 2) (hb : S 37 54 = nI b) (hr : r < h) (v x u : Int32) (G : aG) : ∃ (S' : aS) (v8 v9 : Value), rt6 S S' ∧ ∀ Q, (aX mX6_bleached 66 [.ref 34, .int (nI r), .int v, .int x, .int u, .int (nI w), .int 0, .int 0, .null, .null] [] S G Q ↔ aX mX6_bleached 191 [.ref 34, .int (nI r), .int v, .int x, .int u, .int (nI w), .int (chF (fun s => hmF (blP (S 37) w h r (nI s)) w h k (nI b) 2) v x (10 - x) w (2 ^ w)), .int (nI (2 ^ w)), v8, v9] [] S' G Q) := by
  obtain ⟨hw, hh⟩ := hp.1.2.2
  have h32 : 2 ^ w ≤ 2 ^ 5 := Nat.pow_le_pow_right (by omega) hw.2
  obtain ⟨hm, ehm⟩ : ∃ hm : Nat → Nat, hm = fun s => hmF (blP (S 37) w h r (nI s)) w h k (nI b) 2 := ⟨_, rfl⟩
  rw [← ehm]
  obtain ⟨t, hT, hX⟩ := lpx (τ := aS × Value × Value) (P := fun s t Q => aX mX6_bleached 66 [.ref 34, .int (nI r), .int v, .int x, .int u, .int (nI w), .int (chF hm v x (10 - x) w s), .int (nI s), t.2.1, t.2.2] [] t.1 G Q) (I := fun _ t => rt6 S t.1) (Nat.zero_le (2 ^ w)) (fun s t _ hsw hT => by
    have e37 := hT.1 37 (by decide) (by decide) (by decide) (by decide)
    have hp1 : pOk (t.1 37) w h := by rw [e37]; exact hp
    obtain ⟨S1, v9', r1, q1, hX1⟩ := c_blPage hp1 hr (nI s) v x u (chF hm v x (10 - x) w s) t.2.1 t.2.2 G
    rw [e37] at q1
    have hq := blP_ok hp r (nI s)
    have o := blP_53 hp r (nI s)
    have hqp := pOk_ext hq q1
    obtain ⟨S2, r2, hX2⟩ := c_inkOf rr38 (S := S1) (w := w) (h := h) (k := k) hqp (by rw [q1 53 (by omega), o.1]; exact hk) (by omega) G
    rw [q1 54 (by omega), o.2, hb] at hX2
    have e : hmF (S1 38) w h k (nI b) 2 = hm s := by rw [hmF_ext hqp q1, ehm]
    have hc := cnt_w hsw hw.2
    have rS : rt6 S S2 := rt6_trans hT (rt6_trans ⟨fun k _ _ h3 _ => r1 k h3, fun j _ => by rw [r1 34 (by decide)]⟩ (rt6_of r2))
    have es : chF hm v x (10 - x) w (s + 1) = if nI (hm s) < v then chF hm v x (10 - x) w s else chF hm v x (10 - x) w s + pwF x (cntN s 25) * pwF (10 - x) (w - cntN s 25) := rfl
    rw [es]
    refine ⟨(S2, .int (nI (cntN s 25)), v9'), rS, fun Q => ?_⟩
    rw [x_X6_bleached_66]
    simp only [sh1_all w hw.2, nle rfl hsw (show 2 ^ w < 2147483648 by omega), hX1, x_X6_bleached_135, a_cls_0, a_rf_0_0, a_rf_0_1, a_rf_0_2, a_rf_0_3, a_rf_0_4, a_rf_0_5, a_rf_0_6, a_rf_0_7, a_rf_0_8, a_cls_1, a_rf_1_0, a_len_2, a_get_2, a_cls_3, a_rf_3_0, a_rf_3_1, a_rf_3_2, a_len_4, a_get_4, a_len_5, a_get_5, a_len_6, a_get_6, a_cls_7, a_rf_7_0, a_rf_7_1, a_rf_7_2, a_len_8, a_get_8, a_len_9, a_get_9, a_len_10, a_get_10, a_cls_11, a_rf_11_0, a_rf_11_1, a_rf_11_2, a_len_12, a_get_12, a_len_13, a_get_13, a_len_14, a_get_14, a_cls_15, a_rf_15_0, a_rf_15_1, a_rf_15_2, a_len_16, a_get_16, a_len_17, a_get_17, a_len_18, a_get_18, a_cls_19, a_rf_19_0, a_rf_19_1, a_rf_19_2, a_rf_19_3, a_rf_19_4, a_len_20, a_get_20, a_len_21, a_get_21, a_len_22, a_get_22, a_len_23, a_get_23, a_len_24, a_get_24, a_cls_25, a_rf_25_0, a_rf_25_1, a_rf_25_2, a_rf_25_3, a_len_26, a_get_26, a_len_27, a_get_27, a_len_28, a_get_28, a_len_29, a_get_29, a_cls_30, a_rf_30_0, a_rf_30_1, a_len_31, a_get_31, a_len_32, a_get_32, a_len_33, a_get_33, a_cls_34, a_rf_34_1, a_rf_34_3, a_rf_34_4, a_rf_34_5, a_rf_34_6, a_rf_34_8, a_rf_34_9, a_rf_34_11, a_rf_34_12, a_rf_34_21, a_len_35, a_get_35, a_len_36, a_get_36, a_len_37, a_get_37, a_len_38, a_get_38, a_len_39, a_get_39, a_len_40, a_get_40, a_len_42, a_get_42, a_len_43, a_get_43, a_len_44, a_get_44, a_len_1000, a_get_1000, a_len_1002, a_get_1002, l45, c_many, many_cnt (show s < 2 ^ 31 by omega), x_X6_bleached_140, hX2, x_X6_bleached_152, many_ink hqp, e, x_X6_bleached_155, a_push_s, a_push_n, true_and, and_true, true_implies, false_implies, implies_true, not_true_eq_false, not_false_eq_true, e_10, e_01, e_11, e_00, or_true, true_or, or_false, false_or, and_self, false_and, and_false, Bool.false_eq_true, if_true, if_false]
    by_cases c : nI (hm s) < v
    · simp only [c, x_X6_bleached_181, x_X6_bleached_182, Int32.add_zero, nI_1, a_push_s, a_push_n, true_and, and_true, true_implies, false_implies, implies_true, not_true_eq_false, not_false_eq_true, e_10, e_01, e_11, e_00, or_true, true_or, or_false, false_or, and_self, false_and, and_false, Bool.false_eq_true, if_true, if_false]
    · simp only [c, x_X6_bleached_159, c_power6 x (show cntN s 25 < 1000 by omega), x_X6_bleached_165, pk_sub hc.2, c_power6 (10 - x) (show w - cntN s 25 < 1000 by omega), x_X6_bleached_177, x_X6_bleached_182, nI_1, a_push_s, a_push_n, true_and, and_true, true_implies, false_implies, implies_true, not_true_eq_false, not_false_eq_true, e_10, e_01, e_11, e_00, or_true, true_or, or_false, false_or, and_self, false_and, and_false, Bool.false_eq_true, if_true, if_false]) (S, .null, .null) (rt6_refl S)
  refine ⟨t.1, t.2.1, t.2.2, hT, fun Q => (hX Q).trans ?_⟩
  rw [x_X6_bleached_66]
  simp only [sh1_all w hw.2, yle rfl (Nat.le_refl (2 ^ w)) (show 2 ^ w < 2147483648 by omega), a_push_s, a_push_n, true_and, and_true, true_implies, false_implies, implies_true, not_true_eq_false, not_false_eq_true, e_10, e_01, e_11, e_00, or_true, true_or, or_false, false_or, and_self, false_and, and_false, Bool.false_eq_true, if_true, if_false]
theorem p_bleached {X N : Nat → Int32} {S : aS} {G : aG} (hI : InvE X N S G) (ro v x u : Int32) : Pr X N mX5_bleached mX6_bleached [.ref 0, .int ro, .int v, .int x, .int u, .null, .null, .null, .null] [.ref 34, .int ro, .int v, .int x, .int u, .null, .null, .null, .null, .null] S G := by
  have hI0 := hI
  obtain ⟨w, h, T, nt, nd, b0, b1, ns, hi⟩ := hI
  have hs3 := hi.1.2
  have hp := hi.1.1
  have hW := sh_W hs3 hp
  have hn := pOk_n hp
  obtain ⟨hw, hh⟩ := hp.1.2.2
  obtain ⟨k, hk, ek⟩ := hp.2.2.2.2.1
  obtain ⟨b, hb, eb⟩ := hp.2.2.2.2.2.1
  have a0 : a_in 0 67 = True := eq_true (by decide)
  have a1 : a_in 1 67 = True := eq_true (by decide)
  have v0 : (v < 0) = (v.toInt < 0) := by rw [lt_i]; rfl
  have v25 : (25 < v) = (25 < v.toInt) := by rw [lt_i]; rfl
  have x0 : (x < 0) = (x.toInt < 0) := by rw [lt_i]; rfl
  have x10 : (x ≤ 10) = (x.toInt ≤ 10) := by rw [le_i]; rfl
  have eh : (nI h - 1).toInt = (h : Int) - 1 := nI_sub1 hh.1 (by omega)
  by_cases c1 : 0 ≤ ro.toInt ∧ ro.toInt < (h : Nat)
  · have c1' : 0 ≤ ro.toInt ∧ ro.toInt ≤ (h : Int) - 1 := by omega
    by_cases c2 : 0 ≤ v.toInt ∧ v.toInt ≤ 25
    · by_cases c3 : 0 ≤ x.toInt ∧ x.toInt ≤ 10
      · obtain ⟨r, hr, rfl⟩ := nI_back c1.1 c1.2
        obtain ⟨xn, hxn, rfl⟩ := nI_back c3.1 (n := 11) (by omega)
        have y1 : ¬ v.toInt < 0 := by omega
        have y2 : ¬ 25 < v.toInt := by omega
        have y3 : ¬ (nI xn).toInt < 0 := by omega
        have e10 : (10 : Int32) - nI xn = nI (10 - xn) := pk_sub (a := 10) (b := xn) (by omega)
        obtain ⟨S1, v8, r1, hX1⟩ := c_bleach5 hs3 hp ek hk eb hb hr v (nI xn) u G
        have g37 : a_pf S1 34 0 0 37 = S 37 := by rw [a_pf_row _ _ _ (by decide), r1 37 (by omega) (by omega)]
        obtain ⟨S2, v8', v9', r2, hX2⟩ := c_bleach6 (S := a_pf S1 34 0 0) (w := w) (h := h) (r := r) (k := k) (b := b) (by rw [g37]; exact hp) (by rw [g37]; exact ek) hk (by rw [g37]; exact eb) hr v (nI xn) u G
        rw [g37] at hX2
        obtain ⟨A, hA, eA⟩ := chF_rng (hm := fun s => hmF (blP (S 37) w h r (nI s)) w h k (nI b) 2) (v := v) (x := xn) (w := w) (by omega) hw.2 (2 ^ w) (Nat.le_refl _)
        rw [e10, eA] at hX1 hX2
        have h32 : 2 ^ w ≤ 2 ^ 5 := Nat.pow_le_pow_right (by omega) hw.2
        have hA2 : A < 2147483648 := by omega
        have hlo : 0 < 10 ^ w := Nat.pow_pos (by omega)
        have hlo2 : 10 ^ w ≤ 100000 := pow10 (by omega) hw.2
        have hup : -2147483648 < (nI A).toInt := by rw [n_i hA2]; omega
        have p10 : pwF 10 w = nI (10 ^ w) := pwF_n 10 w
        refine Pr_q hI0 (.int (frF (nI A) (10 ^ w) u)) S1 S2 (clT_scr r1) (scr_trans (scr_rw (rw6_pf S1 0 (Or.inl rfl))) (scr_rt r2)) (fun Q => ?_) (fun Q => ?_)
        · rw [x_X5_bleached_0]
          simp only [a_cls_0, a_rf_0_0, a_rf_0_1, a_rf_0_2, a_rf_0_3, a_rf_0_4, a_rf_0_5, a_rf_0_6, a_rf_0_7, a_rf_0_8, a_cls_1, a_rf_1_0, a_len_2, a_get_2, a_cls_3, a_rf_3_0, a_rf_3_1, a_rf_3_2, a_len_4, a_get_4, a_len_5, a_get_5, a_len_6, a_get_6, a_cls_7, a_rf_7_0, a_rf_7_1, a_rf_7_2, a_len_8, a_get_8, a_len_9, a_get_9, a_len_10, a_get_10, a_cls_11, a_rf_11_0, a_rf_11_1, a_rf_11_2, a_len_12, a_get_12, a_len_13, a_get_13, a_len_14, a_get_14, a_cls_15, a_rf_15_0, a_rf_15_1, a_rf_15_2, a_len_16, a_get_16, a_len_17, a_get_17, a_len_18, a_get_18, a_cls_19, a_rf_19_0, a_rf_19_1, a_rf_19_2, a_rf_19_3, a_rf_19_4, a_len_20, a_get_20, a_len_21, a_get_21, a_len_22, a_get_22, a_len_23, a_get_23, a_len_24, a_get_24, a_cls_25, a_rf_25_0, a_rf_25_1, a_rf_25_2, a_rf_25_3, a_len_26, a_get_26, a_len_27, a_get_27, a_len_28, a_get_28, a_len_29, a_get_29, a_cls_30, a_rf_30_0, a_rf_30_1, a_len_31, a_get_31, a_len_32, a_get_32, a_len_33, a_get_33, a_cls_34, a_rf_34_1, a_rf_34_3, a_rf_34_4, a_rf_34_5, a_rf_34_6, a_rf_34_8, a_rf_34_9, a_rf_34_11, a_rf_34_12, a_rf_34_21, a_len_35, a_get_35, a_len_36, a_get_36, a_len_37, a_get_37, a_len_38, a_get_38, a_len_39, a_get_39, a_len_40, a_get_40, a_len_42, a_get_42, a_len_43, a_get_43, a_len_44, a_get_44, a_len_1000, a_get_1000, a_len_1002, a_get_1002, l45, c_hasRow hW, bq_t c1, x_X5_bleached_8, x_X5_bleached_13, v0, y1, x_X5_bleached_17, v25, y2, x_X5_bleached_23, x0, y3, x_X5_bleached_27, x10, c3.2, x_X5_bleached_36, hW.2.1, hX1, x_X5_bleached_108, c_power5 10 (show w < 1000 by omega), p10, x_X5_bleached_117, c_fraction5 (nI A) hlo (show 10 ^ w < 2147483648 by omega) hup, x_X5_bleached_122, a_push_s, a_push_n, true_and, and_true, true_implies, false_implies, implies_true, not_true_eq_false, not_false_eq_true, e_10, e_01, e_11, e_00, or_true, true_or, or_false, false_or, and_self, false_and, and_false, Bool.false_eq_true, if_true, if_false]
        · rw [x_X6_bleached_0]
          simp only [a_cls_0, a_rf_0_0, a_rf_0_1, a_rf_0_2, a_rf_0_3, a_rf_0_4, a_rf_0_5, a_rf_0_6, a_rf_0_7, a_rf_0_8, a_cls_1, a_rf_1_0, a_len_2, a_get_2, a_cls_3, a_rf_3_0, a_rf_3_1, a_rf_3_2, a_len_4, a_get_4, a_len_5, a_get_5, a_len_6, a_get_6, a_cls_7, a_rf_7_0, a_rf_7_1, a_rf_7_2, a_len_8, a_get_8, a_len_9, a_get_9, a_len_10, a_get_10, a_cls_11, a_rf_11_0, a_rf_11_1, a_rf_11_2, a_len_12, a_get_12, a_len_13, a_get_13, a_len_14, a_get_14, a_cls_15, a_rf_15_0, a_rf_15_1, a_rf_15_2, a_len_16, a_get_16, a_len_17, a_get_17, a_len_18, a_get_18, a_cls_19, a_rf_19_0, a_rf_19_1, a_rf_19_2, a_rf_19_3, a_rf_19_4, a_len_20, a_get_20, a_len_21, a_get_21, a_len_22, a_get_22, a_len_23, a_get_23, a_len_24, a_get_24, a_cls_25, a_rf_25_0, a_rf_25_1, a_rf_25_2, a_rf_25_3, a_len_26, a_get_26, a_len_27, a_get_27, a_len_28, a_get_28, a_len_29, a_get_29, a_cls_30, a_rf_30_0, a_rf_30_1, a_len_31, a_get_31, a_len_32, a_get_32, a_len_33, a_get_33, a_cls_34, a_rf_34_1, a_rf_34_3, a_rf_34_4, a_rf_34_5, a_rf_34_6, a_rf_34_8, a_rf_34_9, a_rf_34_11, a_rf_34_12, a_rf_34_21, a_len_35, a_get_35, a_len_36, a_get_36, a_len_37, a_get_37, a_len_38, a_get_38, a_len_39, a_get_39, a_len_40, a_get_40, a_len_42, a_get_42, a_len_43, a_get_43, a_len_44, a_get_44, a_len_1000, a_get_1000, a_len_1002, a_get_1002, l45, x_X6_bleached_5, a0, a1, tc_0, tc_1, g37, hp.1.1, hp.1.2.1, c_in, i2l_i, eh, tl_0, bq_t c1', x_X6_bleached_28, x_X6_bleached_33, tl_25, bq_t c2, x_X6_bleached_42, x_X6_bleached_45, tl_10, bq_t c3, x_X6_bleached_54, x_X6_bleached_60, hX2, x_X6_bleached_191, c_power6 10 (show w < 1000 by omega), p10, x_X6_bleached_200, c_fraction6 (nI A) hlo (show 10 ^ w < 2147483648 by omega) hup, x_X6_bleached_205, a_push_s, a_push_n, true_and, and_true, true_implies, false_implies, implies_true, not_true_eq_false, not_false_eq_true, e_10, e_01, e_11, e_00, or_true, true_or, or_false, false_or, and_self, false_and, and_false, Bool.false_eq_true, if_true, if_false]
      · have g37 : a_pf S 34 0 0 37 = S 37 := a_pf_row _ _ _ (by decide)
        have y1 : ¬ v.toInt < 0 := by omega
        have y2 : ¬ 25 < v.toInt := by omega
        refine Pr_q hI0 (.int (-2)) S (a_pf S 34 0 0) (scr_refl S) (scr_rw (rw6_pf S 0 (Or.inl rfl))) (fun Q => ?_) (fun Q => ?_)
        · rw [x_X5_bleached_0]
          by_cases y3 : x.toInt < 0
          · simp only [a_cls_0, a_rf_0_0, a_rf_0_1, a_rf_0_2, a_rf_0_3, a_rf_0_4, a_rf_0_5, a_rf_0_6, a_rf_0_7, a_rf_0_8, a_cls_1, a_rf_1_0, a_len_2, a_get_2, a_cls_3, a_rf_3_0, a_rf_3_1, a_rf_3_2, a_len_4, a_get_4, a_len_5, a_get_5, a_len_6, a_get_6, a_cls_7, a_rf_7_0, a_rf_7_1, a_rf_7_2, a_len_8, a_get_8, a_len_9, a_get_9, a_len_10, a_get_10, a_cls_11, a_rf_11_0, a_rf_11_1, a_rf_11_2, a_len_12, a_get_12, a_len_13, a_get_13, a_len_14, a_get_14, a_cls_15, a_rf_15_0, a_rf_15_1, a_rf_15_2, a_len_16, a_get_16, a_len_17, a_get_17, a_len_18, a_get_18, a_cls_19, a_rf_19_0, a_rf_19_1, a_rf_19_2, a_rf_19_3, a_rf_19_4, a_len_20, a_get_20, a_len_21, a_get_21, a_len_22, a_get_22, a_len_23, a_get_23, a_len_24, a_get_24, a_cls_25, a_rf_25_0, a_rf_25_1, a_rf_25_2, a_rf_25_3, a_len_26, a_get_26, a_len_27, a_get_27, a_len_28, a_get_28, a_len_29, a_get_29, a_cls_30, a_rf_30_0, a_rf_30_1, a_len_31, a_get_31, a_len_32, a_get_32, a_len_33, a_get_33, a_cls_34, a_rf_34_1, a_rf_34_3, a_rf_34_4, a_rf_34_5, a_rf_34_6, a_rf_34_8, a_rf_34_9, a_rf_34_11, a_rf_34_12, a_rf_34_21, a_len_35, a_get_35, a_len_36, a_get_36, a_len_37, a_get_37, a_len_38, a_get_38, a_len_39, a_get_39, a_len_40, a_get_40, a_len_42, a_get_42, a_len_43, a_get_43, a_len_44, a_get_44, a_len_1000, a_get_1000, a_len_1002, a_get_1002, l45, c_hasRow hW, bq_t c1, x_X5_bleached_8, x_X5_bleached_13, v0, y1, x_X5_bleached_17, v25, y2, x_X5_bleached_23, x0, y3, x_X5_bleached_33, a_push_s, a_push_n, true_and, and_true, true_implies, false_implies, implies_true, not_true_eq_false, not_false_eq_true, e_10, e_01, e_11, e_00, or_true, true_or, or_false, false_or, and_self, false_and, and_false, Bool.false_eq_true, if_true, if_false]
          · have y4 : ¬ x.toInt ≤ 10 := by omega
            simp only [a_cls_0, a_rf_0_0, a_rf_0_1, a_rf_0_2, a_rf_0_3, a_rf_0_4, a_rf_0_5, a_rf_0_6, a_rf_0_7, a_rf_0_8, a_cls_1, a_rf_1_0, a_len_2, a_get_2, a_cls_3, a_rf_3_0, a_rf_3_1, a_rf_3_2, a_len_4, a_get_4, a_len_5, a_get_5, a_len_6, a_get_6, a_cls_7, a_rf_7_0, a_rf_7_1, a_rf_7_2, a_len_8, a_get_8, a_len_9, a_get_9, a_len_10, a_get_10, a_cls_11, a_rf_11_0, a_rf_11_1, a_rf_11_2, a_len_12, a_get_12, a_len_13, a_get_13, a_len_14, a_get_14, a_cls_15, a_rf_15_0, a_rf_15_1, a_rf_15_2, a_len_16, a_get_16, a_len_17, a_get_17, a_len_18, a_get_18, a_cls_19, a_rf_19_0, a_rf_19_1, a_rf_19_2, a_rf_19_3, a_rf_19_4, a_len_20, a_get_20, a_len_21, a_get_21, a_len_22, a_get_22, a_len_23, a_get_23, a_len_24, a_get_24, a_cls_25, a_rf_25_0, a_rf_25_1, a_rf_25_2, a_rf_25_3, a_len_26, a_get_26, a_len_27, a_get_27, a_len_28, a_get_28, a_len_29, a_get_29, a_cls_30, a_rf_30_0, a_rf_30_1, a_len_31, a_get_31, a_len_32, a_get_32, a_len_33, a_get_33, a_cls_34, a_rf_34_1, a_rf_34_3, a_rf_34_4, a_rf_34_5, a_rf_34_6, a_rf_34_8, a_rf_34_9, a_rf_34_11, a_rf_34_12, a_rf_34_21, a_len_35, a_get_35, a_len_36, a_get_36, a_len_37, a_get_37, a_len_38, a_get_38, a_len_39, a_get_39, a_len_40, a_get_40, a_len_42, a_get_42, a_len_43, a_get_43, a_len_44, a_get_44, a_len_1000, a_get_1000, a_len_1002, a_get_1002, l45, c_hasRow hW, bq_t c1, x_X5_bleached_8, x_X5_bleached_13, v0, y1, x_X5_bleached_17, v25, y2, x_X5_bleached_23, x0, y3, x_X5_bleached_27, x10, y4, x_X5_bleached_33, a_push_s, a_push_n, true_and, and_true, true_implies, false_implies, implies_true, not_true_eq_false, not_false_eq_true, e_10, e_01, e_11, e_00, or_true, true_or, or_false, false_or, and_self, false_and, and_false, Bool.false_eq_true, if_true, if_false]
        · rw [x_X6_bleached_0]
          simp only [a_cls_0, a_rf_0_0, a_rf_0_1, a_rf_0_2, a_rf_0_3, a_rf_0_4, a_rf_0_5, a_rf_0_6, a_rf_0_7, a_rf_0_8, a_cls_1, a_rf_1_0, a_len_2, a_get_2, a_cls_3, a_rf_3_0, a_rf_3_1, a_rf_3_2, a_len_4, a_get_4, a_len_5, a_get_5, a_len_6, a_get_6, a_cls_7, a_rf_7_0, a_rf_7_1, a_rf_7_2, a_len_8, a_get_8, a_len_9, a_get_9, a_len_10, a_get_10, a_cls_11, a_rf_11_0, a_rf_11_1, a_rf_11_2, a_len_12, a_get_12, a_len_13, a_get_13, a_len_14, a_get_14, a_cls_15, a_rf_15_0, a_rf_15_1, a_rf_15_2, a_len_16, a_get_16, a_len_17, a_get_17, a_len_18, a_get_18, a_cls_19, a_rf_19_0, a_rf_19_1, a_rf_19_2, a_rf_19_3, a_rf_19_4, a_len_20, a_get_20, a_len_21, a_get_21, a_len_22, a_get_22, a_len_23, a_get_23, a_len_24, a_get_24, a_cls_25, a_rf_25_0, a_rf_25_1, a_rf_25_2, a_rf_25_3, a_len_26, a_get_26, a_len_27, a_get_27, a_len_28, a_get_28, a_len_29, a_get_29, a_cls_30, a_rf_30_0, a_rf_30_1, a_len_31, a_get_31, a_len_32, a_get_32, a_len_33, a_get_33, a_cls_34, a_rf_34_1, a_rf_34_3, a_rf_34_4, a_rf_34_5, a_rf_34_6, a_rf_34_8, a_rf_34_9, a_rf_34_11, a_rf_34_12, a_rf_34_21, a_len_35, a_get_35, a_len_36, a_get_36, a_len_37, a_get_37, a_len_38, a_get_38, a_len_39, a_get_39, a_len_40, a_get_40, a_len_42, a_get_42, a_len_43, a_get_43, a_len_44, a_get_44, a_len_1000, a_get_1000, a_len_1002, a_get_1002, l45, x_X6_bleached_5, a0, a1, tc_0, tc_1, g37, hp.1.1, hp.1.2.1, c_in, i2l_i, eh, tl_0, bq_t c1', x_X6_bleached_28, x_X6_bleached_33, tl_25, bq_t c2, x_X6_bleached_42, x_X6_bleached_45, tl_10, bq_f c3, x_X6_bleached_54, x_X6_bleached_57, a_push_s, a_push_n, true_and, and_true, true_implies, false_implies, implies_true, not_true_eq_false, not_false_eq_true, e_10, e_01, e_11, e_00, or_true, true_or, or_false, false_or, and_self, false_and, and_false, Bool.false_eq_true, if_true, if_false]
    · have g37 : a_pf S 34 0 0 37 = S 37 := a_pf_row _ _ _ (by decide)
      refine Pr_q hI0 (.int (-2)) S (a_pf S 34 0 0) (scr_refl S) (scr_rw (rw6_pf S 0 (Or.inl rfl))) (fun Q => ?_) (fun Q => ?_)
      · rw [x_X5_bleached_0]
        by_cases y1 : v.toInt < 0
        · simp only [a_cls_0, a_rf_0_0, a_rf_0_1, a_rf_0_2, a_rf_0_3, a_rf_0_4, a_rf_0_5, a_rf_0_6, a_rf_0_7, a_rf_0_8, a_cls_1, a_rf_1_0, a_len_2, a_get_2, a_cls_3, a_rf_3_0, a_rf_3_1, a_rf_3_2, a_len_4, a_get_4, a_len_5, a_get_5, a_len_6, a_get_6, a_cls_7, a_rf_7_0, a_rf_7_1, a_rf_7_2, a_len_8, a_get_8, a_len_9, a_get_9, a_len_10, a_get_10, a_cls_11, a_rf_11_0, a_rf_11_1, a_rf_11_2, a_len_12, a_get_12, a_len_13, a_get_13, a_len_14, a_get_14, a_cls_15, a_rf_15_0, a_rf_15_1, a_rf_15_2, a_len_16, a_get_16, a_len_17, a_get_17, a_len_18, a_get_18, a_cls_19, a_rf_19_0, a_rf_19_1, a_rf_19_2, a_rf_19_3, a_rf_19_4, a_len_20, a_get_20, a_len_21, a_get_21, a_len_22, a_get_22, a_len_23, a_get_23, a_len_24, a_get_24, a_cls_25, a_rf_25_0, a_rf_25_1, a_rf_25_2, a_rf_25_3, a_len_26, a_get_26, a_len_27, a_get_27, a_len_28, a_get_28, a_len_29, a_get_29, a_cls_30, a_rf_30_0, a_rf_30_1, a_len_31, a_get_31, a_len_32, a_get_32, a_len_33, a_get_33, a_cls_34, a_rf_34_1, a_rf_34_3, a_rf_34_4, a_rf_34_5, a_rf_34_6, a_rf_34_8, a_rf_34_9, a_rf_34_11, a_rf_34_12, a_rf_34_21, a_len_35, a_get_35, a_len_36, a_get_36, a_len_37, a_get_37, a_len_38, a_get_38, a_len_39, a_get_39, a_len_40, a_get_40, a_len_42, a_get_42, a_len_43, a_get_43, a_len_44, a_get_44, a_len_1000, a_get_1000, a_len_1002, a_get_1002, l45, c_hasRow hW, bq_t c1, x_X5_bleached_8, x_X5_bleached_13, v0, y1, x_X5_bleached_33, a_push_s, a_push_n, true_and, and_true, true_implies, false_implies, implies_true, not_true_eq_false, not_false_eq_true, e_10, e_01, e_11, e_00, or_true, true_or, or_false, false_or, and_self, false_and, and_false, Bool.false_eq_true, if_true, if_false]
        · have y2 : 25 < v.toInt := by omega
          simp only [a_cls_0, a_rf_0_0, a_rf_0_1, a_rf_0_2, a_rf_0_3, a_rf_0_4, a_rf_0_5, a_rf_0_6, a_rf_0_7, a_rf_0_8, a_cls_1, a_rf_1_0, a_len_2, a_get_2, a_cls_3, a_rf_3_0, a_rf_3_1, a_rf_3_2, a_len_4, a_get_4, a_len_5, a_get_5, a_len_6, a_get_6, a_cls_7, a_rf_7_0, a_rf_7_1, a_rf_7_2, a_len_8, a_get_8, a_len_9, a_get_9, a_len_10, a_get_10, a_cls_11, a_rf_11_0, a_rf_11_1, a_rf_11_2, a_len_12, a_get_12, a_len_13, a_get_13, a_len_14, a_get_14, a_cls_15, a_rf_15_0, a_rf_15_1, a_rf_15_2, a_len_16, a_get_16, a_len_17, a_get_17, a_len_18, a_get_18, a_cls_19, a_rf_19_0, a_rf_19_1, a_rf_19_2, a_rf_19_3, a_rf_19_4, a_len_20, a_get_20, a_len_21, a_get_21, a_len_22, a_get_22, a_len_23, a_get_23, a_len_24, a_get_24, a_cls_25, a_rf_25_0, a_rf_25_1, a_rf_25_2, a_rf_25_3, a_len_26, a_get_26, a_len_27, a_get_27, a_len_28, a_get_28, a_len_29, a_get_29, a_cls_30, a_rf_30_0, a_rf_30_1, a_len_31, a_get_31, a_len_32, a_get_32, a_len_33, a_get_33, a_cls_34, a_rf_34_1, a_rf_34_3, a_rf_34_4, a_rf_34_5, a_rf_34_6, a_rf_34_8, a_rf_34_9, a_rf_34_11, a_rf_34_12, a_rf_34_21, a_len_35, a_get_35, a_len_36, a_get_36, a_len_37, a_get_37, a_len_38, a_get_38, a_len_39, a_get_39, a_len_40, a_get_40, a_len_42, a_get_42, a_len_43, a_get_43, a_len_44, a_get_44, a_len_1000, a_get_1000, a_len_1002, a_get_1002, l45, c_hasRow hW, bq_t c1, x_X5_bleached_8, x_X5_bleached_13, v0, y1, x_X5_bleached_17, v25, y2, x_X5_bleached_33, a_push_s, a_push_n, true_and, and_true, true_implies, false_implies, implies_true, not_true_eq_false, not_false_eq_true, e_10, e_01, e_11, e_00, or_true, true_or, or_false, false_or, and_self, false_and, and_false, Bool.false_eq_true, if_true, if_false]
      · rw [x_X6_bleached_0]
        simp only [a_cls_0, a_rf_0_0, a_rf_0_1, a_rf_0_2, a_rf_0_3, a_rf_0_4, a_rf_0_5, a_rf_0_6, a_rf_0_7, a_rf_0_8, a_cls_1, a_rf_1_0, a_len_2, a_get_2, a_cls_3, a_rf_3_0, a_rf_3_1, a_rf_3_2, a_len_4, a_get_4, a_len_5, a_get_5, a_len_6, a_get_6, a_cls_7, a_rf_7_0, a_rf_7_1, a_rf_7_2, a_len_8, a_get_8, a_len_9, a_get_9, a_len_10, a_get_10, a_cls_11, a_rf_11_0, a_rf_11_1, a_rf_11_2, a_len_12, a_get_12, a_len_13, a_get_13, a_len_14, a_get_14, a_cls_15, a_rf_15_0, a_rf_15_1, a_rf_15_2, a_len_16, a_get_16, a_len_17, a_get_17, a_len_18, a_get_18, a_cls_19, a_rf_19_0, a_rf_19_1, a_rf_19_2, a_rf_19_3, a_rf_19_4, a_len_20, a_get_20, a_len_21, a_get_21, a_len_22, a_get_22, a_len_23, a_get_23, a_len_24, a_get_24, a_cls_25, a_rf_25_0, a_rf_25_1, a_rf_25_2, a_rf_25_3, a_len_26, a_get_26, a_len_27, a_get_27, a_len_28, a_get_28, a_len_29, a_get_29, a_cls_30, a_rf_30_0, a_rf_30_1, a_len_31, a_get_31, a_len_32, a_get_32, a_len_33, a_get_33, a_cls_34, a_rf_34_1, a_rf_34_3, a_rf_34_4, a_rf_34_5, a_rf_34_6, a_rf_34_8, a_rf_34_9, a_rf_34_11, a_rf_34_12, a_rf_34_21, a_len_35, a_get_35, a_len_36, a_get_36, a_len_37, a_get_37, a_len_38, a_get_38, a_len_39, a_get_39, a_len_40, a_get_40, a_len_42, a_get_42, a_len_43, a_get_43, a_len_44, a_get_44, a_len_1000, a_get_1000, a_len_1002, a_get_1002, l45, x_X6_bleached_5, a0, a1, tc_0, tc_1, g37, hp.1.1, hp.1.2.1, c_in, i2l_i, eh, tl_0, bq_t c1', x_X6_bleached_28, x_X6_bleached_33, tl_25, bq_f c2, x_X6_bleached_42, x_X6_bleached_57, a_push_s, a_push_n, true_and, and_true, true_implies, false_implies, implies_true, not_true_eq_false, not_false_eq_true, e_10, e_01, e_11, e_00, or_true, true_or, or_false, false_or, and_self, false_and, and_false, Bool.false_eq_true, if_true, if_false]
  · have c1' : ¬ (0 ≤ ro.toInt ∧ ro.toInt ≤ (h : Int) - 1) := by omega
    have g37 : a_pf S 34 0 0 37 = S 37 := a_pf_row _ _ _ (by decide)
    refine Pr_q hI0 (.int (-1)) S (a_pf S 34 0 0) (scr_refl S) (scr_rw (rw6_pf S 0 (Or.inl rfl))) (fun Q => ?_) (fun Q => ?_)
    · rw [x_X5_bleached_0]
      simp only [a_cls_0, a_rf_0_0, a_rf_0_1, a_rf_0_2, a_rf_0_3, a_rf_0_4, a_rf_0_5, a_rf_0_6, a_rf_0_7, a_rf_0_8, a_cls_1, a_rf_1_0, a_len_2, a_get_2, a_cls_3, a_rf_3_0, a_rf_3_1, a_rf_3_2, a_len_4, a_get_4, a_len_5, a_get_5, a_len_6, a_get_6, a_cls_7, a_rf_7_0, a_rf_7_1, a_rf_7_2, a_len_8, a_get_8, a_len_9, a_get_9, a_len_10, a_get_10, a_cls_11, a_rf_11_0, a_rf_11_1, a_rf_11_2, a_len_12, a_get_12, a_len_13, a_get_13, a_len_14, a_get_14, a_cls_15, a_rf_15_0, a_rf_15_1, a_rf_15_2, a_len_16, a_get_16, a_len_17, a_get_17, a_len_18, a_get_18, a_cls_19, a_rf_19_0, a_rf_19_1, a_rf_19_2, a_rf_19_3, a_rf_19_4, a_len_20, a_get_20, a_len_21, a_get_21, a_len_22, a_get_22, a_len_23, a_get_23, a_len_24, a_get_24, a_cls_25, a_rf_25_0, a_rf_25_1, a_rf_25_2, a_rf_25_3, a_len_26, a_get_26, a_len_27, a_get_27, a_len_28, a_get_28, a_len_29, a_get_29, a_cls_30, a_rf_30_0, a_rf_30_1, a_len_31, a_get_31, a_len_32, a_get_32, a_len_33, a_get_33, a_cls_34, a_rf_34_1, a_rf_34_3, a_rf_34_4, a_rf_34_5, a_rf_34_6, a_rf_34_8, a_rf_34_9, a_rf_34_11, a_rf_34_12, a_rf_34_21, a_len_35, a_get_35, a_len_36, a_get_36, a_len_37, a_get_37, a_len_38, a_get_38, a_len_39, a_get_39, a_len_40, a_get_40, a_len_42, a_get_42, a_len_43, a_get_43, a_len_44, a_get_44, a_len_1000, a_get_1000, a_len_1002, a_get_1002, l45, c_hasRow hW, bq_f c1, x_X5_bleached_8, x_X5_bleached_11, a_push_s, a_push_n, true_and, and_true, true_implies, false_implies, implies_true, not_true_eq_false, not_false_eq_true, e_10, e_01, e_11, e_00, or_true, true_or, or_false, false_or, and_self, false_and, and_false, Bool.false_eq_true, if_true, if_false]
    · rw [x_X6_bleached_0]
      simp only [a_cls_0, a_rf_0_0, a_rf_0_1, a_rf_0_2, a_rf_0_3, a_rf_0_4, a_rf_0_5, a_rf_0_6, a_rf_0_7, a_rf_0_8, a_cls_1, a_rf_1_0, a_len_2, a_get_2, a_cls_3, a_rf_3_0, a_rf_3_1, a_rf_3_2, a_len_4, a_get_4, a_len_5, a_get_5, a_len_6, a_get_6, a_cls_7, a_rf_7_0, a_rf_7_1, a_rf_7_2, a_len_8, a_get_8, a_len_9, a_get_9, a_len_10, a_get_10, a_cls_11, a_rf_11_0, a_rf_11_1, a_rf_11_2, a_len_12, a_get_12, a_len_13, a_get_13, a_len_14, a_get_14, a_cls_15, a_rf_15_0, a_rf_15_1, a_rf_15_2, a_len_16, a_get_16, a_len_17, a_get_17, a_len_18, a_get_18, a_cls_19, a_rf_19_0, a_rf_19_1, a_rf_19_2, a_rf_19_3, a_rf_19_4, a_len_20, a_get_20, a_len_21, a_get_21, a_len_22, a_get_22, a_len_23, a_get_23, a_len_24, a_get_24, a_cls_25, a_rf_25_0, a_rf_25_1, a_rf_25_2, a_rf_25_3, a_len_26, a_get_26, a_len_27, a_get_27, a_len_28, a_get_28, a_len_29, a_get_29, a_cls_30, a_rf_30_0, a_rf_30_1, a_len_31, a_get_31, a_len_32, a_get_32, a_len_33, a_get_33, a_cls_34, a_rf_34_1, a_rf_34_3, a_rf_34_4, a_rf_34_5, a_rf_34_6, a_rf_34_8, a_rf_34_9, a_rf_34_11, a_rf_34_12, a_rf_34_21, a_len_35, a_get_35, a_len_36, a_get_36, a_len_37, a_get_37, a_len_38, a_get_38, a_len_39, a_get_39, a_len_40, a_get_40, a_len_42, a_get_42, a_len_43, a_get_43, a_len_44, a_get_44, a_len_1000, a_get_1000, a_len_1002, a_get_1002, l45, x_X6_bleached_5, a0, a1, tc_0, tc_1, g37, hp.1.1, hp.1.2.1, c_in, i2l_i, eh, tl_0, bq_f c1', x_X6_bleached_28, x_X6_bleached_31, a_push_s, a_push_n, true_and, and_true, true_implies, false_implies, implies_true, not_true_eq_false, not_false_eq_true, e_10, e_01, e_11, e_00, or_true, true_or, or_false, false_or, and_self, false_and, and_false, Bool.false_eq_true, if_true, if_false]
