/-! THE CLASS: numbers -/
theorem cd_half {s r : Nat} (hr : 0 < r) (hrs : r < s) : 2 * (s % r) < s := by
  have h1 := Nat.mod_lt s hr
  have h2 := Nat.div_add_mod s r
  have h3 : 1 ≤ s / r := Nat.div_pos (by omega) hr
  have h4 : r * 1 ≤ r * (s / r) := Nat.mul_le_mul_left r h3
  omega
theorem c_cd (x y : Int32) (S : aS) (G : aG) (Q : aQ) : ∀ (k big small t : Nat) (v : Value), small < 2 ^ k → t + 2 * k ≤ 64 → big < 2147483648 → small < 2147483648 → (aX mX5_commonDivisor 7 [.int x, .int y, .int (nI big), .int (nI small), .int (nI t), v] [] S G Q ↔ Q (some (.int (nI (Nat.gcd small big)))) S G) := by
  have zero : ∀ (big t : Nat) (v : Value), t ≤ 64 → (aX mX5_commonDivisor 7 [.int x, .int y, .int (nI big), .int (nI 0), .int (nI t), v] [] S G Q ↔ Q (some (.int (nI big))) S G) := by
    intro big t v ht
    have e : (nI 0 = 0) = True := eq_true (by decide)
    rcases Nat.lt_or_ge t 64 with q | q
    · simp only [x_X5_commonDivisor_7, nle (c := 64) (n := 64) rfl q (by omega), x_X5_commonDivisor_14, e, x_X5_commonDivisor_34, a_push_s, a_push_n, true_and, and_true, true_implies, false_implies, implies_true, not_true_eq_false, not_false_eq_true, e_10, e_01, e_11, e_00, or_true, true_or, or_false, false_or, and_self, false_and, and_false, Bool.false_eq_true, if_true, if_false]
    · simp only [x_X5_commonDivisor_7, yle (c := 64) (n := 64) rfl q (by omega), x_X5_commonDivisor_34, a_push_s, a_push_n, true_and, and_true, true_implies, false_implies, implies_true, not_true_eq_false, not_false_eq_true, e_10, e_01, e_11, e_00, or_true, true_or, or_false, false_or, and_self, false_and, and_false, Bool.false_eq_true, if_true, if_false]
  intro k
  induction k with
  | zero =>
    intro big small t v h1 h2 h3 h4
    have : small = 0 := by simpa using h1
    subst this
    rw [Nat.gcd_zero_left]
    exact zero big t v (by omega)
  | succ k ih =>
    intro big small t v h1 h2 h3 h4
    by_cases h0 : small = 0
    · subst h0; rw [Nat.gcd_zero_left]; exact zero big t v (by omega)
    · have e : (nI small = 0) = False := eq_false (nI_ne0 (by omega) (by omega))
      have hm : big % small < small := Nat.mod_lt _ (by omega)
      refine (x_X5_commonDivisor_7 _ _ _ _ _ _ S G Q).trans ?_
      simp only [nle (c := 64) (n := 64) rfl (show t < 64 by omega) (by omega), x_X5_commonDivisor_14, e, x_X5_commonDivisor_18, pk_rem (show big < 2 ^ 31 by omega) (show 0 < small by omega) (show small < 2 ^ 31 by omega), pk_div (show big < 2 ^ 31 by omega) (show 0 < small by omega) (show small < 2 ^ 31 by omega), rem_n, nI_1, a_push_s, a_push_n, true_and, and_true, true_implies, false_implies, implies_true, not_true_eq_false, not_false_eq_true, e_10, e_01, e_11, e_00, or_true, true_or, or_false, false_or, and_self, false_and, and_false, Bool.false_eq_true, if_true, if_false]
      rw [Nat.gcd_rec small big]
      by_cases hr : big % small = 0
      · rw [hr, Nat.gcd_zero_left]; exact zero small (t + 1) _ (by omega)
      · have e2 : (nI (big % small) = 0) = False := eq_false (nI_ne0 (by omega) (by omega))
        have hh := cd_half (show 0 < big % small by omega) hm
        have hp : 2 ^ (k + 1) = 2 * 2 ^ k := by rw [Nat.pow_succ, Nat.mul_comm]
        refine (x_X5_commonDivisor_7 _ _ _ _ _ _ S G Q).trans ?_
        simp only [nle (c := 64) (n := 64) rfl (show t + 1 < 64 by omega) (by omega), x_X5_commonDivisor_14, e2, x_X5_commonDivisor_18, pk_div (show small < 2 ^ 31 by omega) (show 0 < big % small by omega) (show big % small < 2 ^ 31 by omega), rem_n, nI_1, a_push_s, a_push_n, true_and, and_true, true_implies, false_implies, implies_true, not_true_eq_false, not_false_eq_true, e_10, e_01, e_11, e_00, or_true, true_or, or_false, false_or, and_self, false_and, and_false, Bool.false_eq_true, if_true, if_false]
        rw [Nat.gcd_rec (big % small) small]
        exact ih (big % small) (small % (big % small)) (t + 1 + 1) _ (by omega) (by omega) (by omega) (by omega)
theorem c_fraction5 (up : Int32) {lo : Nat} (h0 : 0 < lo) (hlo : lo < 2147483648) (hup : -2147483648 < up.toInt) (u : Int32) (S : aS) (G : aG) (Q : aQ) : aX mX5_fraction 0 [.int up, .int (nI lo), .int u, .null] [] S G Q ↔ Q (some (.int (frF up lo u))) S G := by
  have hr := i_rng up
  have hg : 0 < Nat.gcd lo up.toInt.natAbs := Nat.gcd_pos_of_pos_left _ h0
  have hl : Nat.gcd lo up.toInt.natAbs ≤ lo := Nat.le_of_dvd h0 (Nat.gcd_dvd_left _ _)
  have e : (nI (Nat.gcd lo up.toInt.natAbs) = 0) = False := eq_false (nI_ne0 hg (by omega))
  have ea : (if 0 ≤ up then up else 0 - up) = nI up.toInt.natAbs := by
    by_cases h : 0 ≤ up.toInt
    · rw [if_pos (by rw [le_i]; exact h)]; exact nI_pos2 h
    · rw [if_neg (by rw [le_i]; exact h), Int32.zero_sub]; exact nI_neg (by omega) hup
  have cd : ∀ Q, aX mX5_commonDivisor 0 [.int (nI up.toInt.natAbs), .int (nI lo), .null, .null, .null, .null] [] S G Q ↔ Q (some (.int (nI (Nat.gcd lo up.toInt.natAbs)))) S G := fun Q => by
    rw [x_X5_commonDivisor_0]
    exact c_cd _ _ S G Q 31 up.toInt.natAbs lo 0 _ (by omega) (by omega) (by omega) hlo
  simp only [x_X5_fraction_0, x_X5_fraction_4, x_X5_fraction_8, x_X5_fraction_13, x_X5_fraction_15, x_X5_fraction_19, x_X5_fraction_25, x_X5_fraction_28, ea, cd, e, a_push_s, a_push_n, true_and, and_true, true_implies, false_implies, implies_true, not_true_eq_false, not_false_eq_true, e_10, e_01, e_11, e_00, or_true, true_or, or_false, false_or, and_self, false_and, and_false, Bool.false_eq_true, if_true, if_false, frF]
  by_cases hu : u = 0
  · simp only [hu, a_push_s, a_push_n, true_and, and_true, true_implies, false_implies, implies_true, not_true_eq_false, not_false_eq_true, e_10, e_01, e_11, e_00, or_true, true_or, or_false, false_or, and_self, false_and, and_false, Bool.false_eq_true, if_true, if_false]
  · simp only [hu, a_push_s, a_push_n, true_and, and_true, true_implies, false_implies, implies_true, not_true_eq_false, not_false_eq_true, e_10, e_01, e_11, e_00, or_true, true_or, or_false, false_or, and_self, false_and, and_false, Bool.false_eq_true, if_true, if_false]
theorem c_factorial {n : Nat} (hn : n ≤ 5) (S : aS) (G : aG) (Q : aQ) : aX mX5_factorial 0 [.int (nI n)] [] S G Q ↔ Q (some (.int (a_fact n))) S G := by
  have c0 : (nI n < 0) = False := eq_false (nI_pos (by omega))
  have l : a_len S 1002 = 6 := rfl
  have g : a_get S 1002 n = a_fact n := rfl
  have e6 : Int32.ofNat 6 = nI 6 := rfl
  have z : (0 < 6) = True := by decide
  simp only [x_X5_factorial_0, x_X5_factorial_4, x_X5_factorial_12, x_X5_factorial_20, x_X5_factorial_21, c0, l, e6, z, nle (c := nI 6) (n := 6) rfl (show n < 6 by omega) (by omega), ain (show n < 6 by omega) (by omega), tc_n (show n < 2147483648 by omega), g, a_push_s, a_push_n, true_and, and_true, true_implies, false_implies, implies_true, not_true_eq_false, not_false_eq_true, e_10, e_01, e_11, e_00, or_true, true_or, or_false, false_or, and_self, false_and, and_false, Bool.false_eq_true, if_true, if_false]
theorem c_power5 (a : Int32) {n : Nat} (hn : n < 1000) (S : aS) (G : aG) (Q : aQ) : aX mX5_power 0 [.int a, .int (nI n), .null, .null] [] S G Q ↔ Q (some (.int (pwF a n))) S G := by
  rw [x_X5_power_0]
  refine (lp (n := n) (P := fun i => aX mX5_power 4 [.int a, .int (nI n), .int (pwF a i), .int (nI i)] [] S G Q) (fun i hi => ?_)).trans ?_
  · refine (x_X5_power_4 _ _ _ _ S G Q).trans ?_
    simp only [nle rfl hi (show n < 2147483648 by omega), x_X5_power_9, nI_1, pwF, it_succ, a_push_s, a_push_n, true_and, and_true, true_implies, false_implies, implies_true, not_true_eq_false, not_false_eq_true, e_10, e_01, e_11, e_00, or_true, true_or, or_false, false_or, and_self, false_and, and_false, Bool.false_eq_true, if_true, if_false]
  · simp only [x_X5_power_4, yle rfl (Nat.le_refl n) (show n < 2147483648 by omega), x_X5_power_19, a_push_s, a_push_n, true_and, and_true, true_implies, false_implies, implies_true, not_true_eq_false, not_false_eq_true, e_10, e_01, e_11, e_00, or_true, true_or, or_false, false_or, and_self, false_and, and_false, Bool.false_eq_true, if_true, if_false]
theorem fac_all : ∀ n, n ≤ 5 → ∀ k, k < n → facF (n - 1 - k) (facF k 1) = a_fact k * a_fact (n - 1 - k) := by decide +kernel
theorem c_ordersWith {n c : Nat} (hc : c < 2 ^ 31) (hk : cntN c 32 < n) (hn : n ≤ 5) (S : aS) (G : aG) (Q : aQ) : aX mX5_ordersWith 0 [.int (nI c), .int (nI n), .null] [] S G Q ↔ Q (some (.int (facF (n - 1 - cntN c 32) (facF (cntN c 32) 1)))) S G := by
  have e1 : nI n - 1 - nI (cntN c 32) = nI (n - 1 - cntN c 32) := by rw [show nI n - 1 = nI (n - 1) from pk_sub (a := n) (b := 1) (by omega), pk_sub (by omega)]
  simp only [x_X5_ordersWith_0, x_X5_ordersWith_4, x_X5_ordersWith_9, x_X5_ordersWith_17, c_bitCount hc, c_factorial (show cntN c 32 ≤ 5 by omega), e1, c_factorial (show n - 1 - cntN c 32 ≤ 5 by omega), fac_all n hn _ hk, a_push_s, a_push_n, true_and, and_true, true_implies, false_implies, implies_true, not_true_eq_false, not_false_eq_true, e_10, e_01, e_11, e_00, or_true, true_or, or_false, false_or, and_self, false_and, and_false, Bool.false_eq_true, if_true, if_false]
theorem c_countOf {d : Nat} (hd : d < 25) (S : aS) (G : aG) (Q : aQ) : aX mX1_countOf 0 [.ref 19, .int (nI d)] [] S G Q ↔ Q (some (.int (S 20 d))) S G := by
  simp only [x_X1_countOf_0, x_X1_countOf_4, x_X1_countOf_7, x_X1_countOf_16, x_X1_countOf_17, c_isPlaceN hd, a_cls_19, a_rf_19_0, a_len_20, a_get_20, ain hd (by omega), tc_n (show d < 2147483648 by omega), a_push_s, a_push_n, true_and, and_true, true_implies, false_implies, implies_true, not_true_eq_false, not_false_eq_true, e_10, e_01, e_11, e_00, or_true, true_or, or_false, false_or, and_self, false_and, and_false, Bool.false_eq_true, if_true, if_false]
theorem c_sumOf {d : Nat} (hd : d < 25) (S : aS) (G : aG) (Q : aQ) : aX mX1_sumOf 0 [.ref 19, .int (nI d)] [] S G Q ↔ Q (some (.int (S 21 d))) S G := by
  simp only [x_X1_sumOf_0, x_X1_sumOf_4, x_X1_sumOf_7, x_X1_sumOf_16, x_X1_sumOf_17, c_isPlaceN hd, a_cls_19, a_rf_19_1, a_len_21, a_get_21, ain hd (by omega), tc_n (show d < 2147483648 by omega), a_push_s, a_push_n, true_and, and_true, true_implies, false_implies, implies_true, not_true_eq_false, not_false_eq_true, e_10, e_01, e_11, e_00, or_true, true_or, or_false, false_or, and_self, false_and, and_false, Bool.false_eq_true, if_true, if_false]
theorem c_squaresOf {d : Nat} (hd : d < 25) (S : aS) (G : aG) (Q : aQ) : aX mX1_squaresOf 0 [.ref 19, .int (nI d)] [] S G Q ↔ Q (some (.int (S 22 d))) S G := by
  simp only [x_X1_squaresOf_0, x_X1_squaresOf_4, x_X1_squaresOf_7, x_X1_squaresOf_16, x_X1_squaresOf_17, c_isPlaceN hd, a_cls_19, a_rf_19_2, a_len_22, a_get_22, ain hd (by omega), tc_n (show d < 2147483648 by omega), a_push_s, a_push_n, true_and, and_true, true_implies, false_implies, implies_true, not_true_eq_false, not_false_eq_true, e_10, e_01, e_11, e_00, or_true, true_or, or_false, false_or, and_self, false_and, and_false, Bool.false_eq_true, if_true, if_false]
theorem c_unevenness {d : Nat} (hd : d < 25) (S : aS) (G : aG) (Q : aQ) : aX mX1_unevenness 0 [.ref 19, .int (nI d)] [] S G Q ↔ Q (some (.int (S 20 d * S 22 d - S 21 d * S 21 d))) S G := by
  simp only [x_X1_unevenness_0, x_X1_unevenness_4, x_X1_unevenness_7, x_X1_unevenness_37, x_X1_unevenness_38, c_isPlaceN hd, a_cls_19, a_rf_19_0, a_rf_19_1, a_rf_19_2, a_len_20, a_len_21, a_len_22, a_get_20, a_get_21, a_get_22, ain hd (by omega), tc_n (show d < 2147483648 by omega), a_push_s, a_push_n, true_and, and_true, true_implies, false_implies, implies_true, not_true_eq_false, not_false_eq_true, e_10, e_01, e_11, e_00, or_true, true_or, or_false, false_or, and_self, false_and, and_false, Bool.false_eq_true, if_true, if_false]
