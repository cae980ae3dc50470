theorem nI_neg {x : Int32} (h : x.toInt < 0) (h2 : -2147483648 < x.toInt) : -x = nI x.toInt.natAbs := by
  apply Int32.toInt_inj.mp
  rw [n_i (by omega), Int32.toInt_neg]
  rw [show (-x.toInt).bmod (2 ^ 32) = -x.toInt from by
    rw [Int.bmod_def]; omega]
  omega
theorem nI_pos2 {x : Int32} (h : 0 ≤ x.toInt) : x = nI x.toInt.natAbs := by
  apply Int32.toInt_inj.mp
  have := i_rng x
  rw [n_i (by omega)]
  omega
theorem c_div13 (x y : Int32) (S : aS) (G : aG) (Q : aQ) : ∀ (b a : Nat) (v : Value), a < 2147483648 → b < 2147483648 → (aX mX6_divisor 13 [.int x, .int y, .int (nI a), .int (nI b), v] [] S G Q ↔ Q (some (.int (nI (Nat.gcd b a)))) S G) := by
  intro b
  induction b using Nat.strongRecOn with
  | _ b ih =>
    intro a v ha hb
    refine (x_X6_divisor_13 _ _ _ _ _ S G Q).trans ?_
    by_cases h0 : b = 0
    · subst h0
      have e : (nI 0 = 0) = True := eq_true (by decide)
      simp only [e, x_X6_divisor_30, Nat.gcd_zero_left, a_push_s, a_push_n, true_and, and_true, true_implies, false_implies, implies_true, not_true_eq_false, not_false_eq_true, e_10, e_01, e_11, e_00, or_true, true_or, or_false, false_or, and_self, false_and, and_false, Bool.false_eq_true, if_true, if_false]
    · have e : (nI b = 0) = False := eq_false (nI_ne0 (by omega) (by omega))
      have hm : a % b < b := Nat.mod_lt a (by omega)
      simp only [e, x_X6_divisor_17, pk_rem (show a < 2 ^ 31 by omega) (show 0 < b by omega) (show b < 2 ^ 31 by omega), a_push_s, a_push_n, true_and, and_true, true_implies, false_implies, implies_true, not_true_eq_false, not_false_eq_true, e_10, e_01, e_11, e_00, or_true, true_or, or_false, false_or, and_self, false_and, and_false, Bool.false_eq_true, if_true, if_false]
      rw [ih (a % b) hm b _ (by omega) (by omega), ← Nat.gcd_rec b a]
/-- a fraction, told by its upper or its lower number -/
def frF (up : Int32) (lo : Nat) (u : Int32) : Int32 := (if u = 0 then nI lo else up) / nI (Nat.gcd lo up.toInt.natAbs)
theorem c_divisor (up : Int32) {lo : Nat} (hlo : lo < 2147483648) (hup : -2147483648 < up.toInt) (S : aS) (G : aG) (Q : aQ) : aX mX6_divisor 0 [.int up, .int (nI lo), .null, .null, .null] [] S G Q ↔ Q (some (.int (nI (Nat.gcd lo up.toInt.natAbs)))) S G := by
  have hr := i_rng up
  by_cases h : 0 ≤ up.toInt
  · have e := nI_pos2 h
    have hc : (0 ≤ up) = True := eq_true (by rw [le_i]; exact h)
    simp only [x_X6_divisor_0, hc, x_X6_divisor_9, x_X6_divisor_10, a_push_s, a_push_n, true_and, and_true, true_implies, false_implies, implies_true, not_true_eq_false, not_false_eq_true, e_10, e_01, e_11, e_00, or_true, true_or, or_false, false_or, and_self, false_and, and_false, Bool.false_eq_true, if_true, if_false]
    have := c_div13 up (nI lo) S G Q lo up.toInt.natAbs .null (by omega) hlo
    rwa [← e] at this
  · have e := nI_neg (show up.toInt < 0 by omega) hup
    have hc : (0 ≤ up) = False := eq_false (by rw [le_i]; exact h)
    simp only [x_X6_divisor_0, hc, x_X6_divisor_4, x_X6_divisor_10, e, a_push_s, a_push_n, true_and, and_true, true_implies, false_implies, implies_true, not_true_eq_false, not_false_eq_true, e_10, e_01, e_11, e_00, or_true, true_or, or_false, false_or, and_self, false_and, and_false, Bool.false_eq_true, if_true, if_false]
    exact c_div13 up (nI lo) S G Q lo up.toInt.natAbs .null (by omega) hlo
theorem c_fraction6 (up : Int32) {lo : Nat} (h0 : 0 < lo) (hlo : lo < 2147483648) (hup : -2147483648 < up.toInt) (u : Int32) (S : aS) (G : aG) (Q : aQ) : aX mX6_fraction 0 [.int up, .int (nI lo), .int u, .null] [] S G Q ↔ Q (some (.int (frF up lo u))) S G := by
  have hg : 0 < Nat.gcd lo up.toInt.natAbs := Nat.gcd_pos_of_pos_left _ h0
  have hl : Nat.gcd lo up.toInt.natAbs ≤ lo := Nat.le_of_dvd h0 (Nat.gcd_dvd_left _ _)
  have e : (nI (Nat.gcd lo up.toInt.natAbs) = 0) = False := eq_false (nI_ne0 hg (by omega))
  simp only [x_X6_fraction_0, x_X6_fraction_5, x_X6_fraction_10, x_X6_fraction_16, x_X6_fraction_19, c_divisor up hlo hup, e, a_push_s, a_push_n, true_and, and_true, true_implies, false_implies, implies_true, not_true_eq_false, not_false_eq_true, e_10, e_01, e_11, e_00, or_true, true_or, or_false, false_or, and_self, false_and, and_false, Bool.false_eq_true, if_true, if_false, frF]
  by_cases hu : u = 0
  · simp only [hu, a_push_s, a_push_n, true_and, and_true, true_implies, false_implies, implies_true, not_true_eq_false, not_false_eq_true, e_10, e_01, e_11, e_00, or_true, true_or, or_false, false_or, and_self, false_and, and_false, Bool.false_eq_true, if_true, if_false]
  · simp only [hu, a_push_s, a_push_n, true_and, and_true, true_implies, false_implies, implies_true, not_true_eq_false, not_false_eq_true, e_10, e_01, e_11, e_00, or_true, true_or, or_false, false_or, and_self, false_and, and_false, Bool.false_eq_true, if_true, if_false]
def pwF (a : Int32) (n : Nat) : Int32 := it (fun _ v => v * a) 1 n
theorem c_power6 (a : Int32) {n : Nat} (hn : n < 1000) (S : aS) (G : aG) (Q : aQ) : aX mX6_power 0 [.int a, .int (nI n), .null, .null] [] S G Q ↔ Q (some (.int (pwF a n))) S G := by
  rw [x_X6_power_0]
  refine (lp (n := n) (P := fun i => aX mX6_power 4 [.int a, .int (nI n), .int (pwF a i), .int (nI i)] [] S G Q) (fun i hi => ?_)).trans ?_
  · refine (x_X6_power_4 _ _ _ _ S G Q).trans ?_
    simp only [nle rfl hi (show n < 2147483648 by omega), x_X6_power_9, nI_1, pwF, it_succ, a_push_s, a_push_n, true_and, and_true, true_implies, false_implies, implies_true, not_true_eq_false, not_false_eq_true, e_10, e_01, e_11, e_00, or_true, true_or, or_false, false_or, and_self, false_and, and_false, Bool.false_eq_true, if_true, if_false]
  · simp only [x_X6_power_4, yle rfl (Nat.le_refl n) (show n < 2147483648 by omega), x_X6_power_19, a_push_s, a_push_n, true_and, and_true, true_implies, false_implies, implies_true, not_true_eq_false, not_false_eq_true, e_10, e_01, e_11, e_00, or_true, true_or, or_false, false_or, and_self, false_and, and_false, Bool.false_eq_true, if_true, if_false]
def lpF (n : Nat) : Int64 := it (fun _ v => v * 100000) 1 n
theorem c_longPower {n : Nat} (hn : n < 1000) (S : aS) (G : aG) (Q : aQ) : aX mX6_longPower 0 [.long 100000, .null, .int (nI n), .null, .null, .null] [] S G Q ↔ Q (some (.long (lpF n))) S G := by
  rw [x_X6_longPower_0]
  refine (lp (n := n) (P := fun i => aX mX6_longPower 5 [.long 100000, .null, .int (nI n), .long (lpF i), .null, .int (nI i)] [] S G Q) (fun i hi => ?_)).trans ?_
  · refine (x_X6_longPower_5 _ _ _ _ S G Q).trans ?_
    simp only [nle rfl hi (show n < 2147483648 by omega), x_X6_longPower_11, nI_1, lpF, it_succ, a_push_s, a_push_n, true_and, and_true, true_implies, false_implies, implies_true, not_true_eq_false, not_false_eq_true, e_10, e_01, e_11, e_00, or_true, true_or, or_false, false_or, and_self, false_and, and_false, Bool.false_eq_true, if_true, if_false]
  · simp only [x_X6_longPower_5, yle rfl (Nat.le_refl n) (show n < 2147483648 by omega), x_X6_longPower_21, a_push_s, a_push_n, true_and, and_true, true_implies, false_implies, implies_true, not_true_eq_false, not_false_eq_true, e_10, e_01, e_11, e_00, or_true, true_or, or_false, false_or, and_self, false_and, and_false, Bool.false_eq_true, if_true, if_false]
def w2 (S : aS) (t : Int32 × Int32) : aS := a_pf (a_pf S 34 17 t.1) 34 18 t.2
theorem w2_row (S : aS) (t : Int32 × Int32) {b : Nat} (h : b ≠ 34) : w2 S t b = S b := by unfold w2; rw [a_pf_row _ _ _ h, a_pf_row _ _ _ h]
theorem w2_17 (S : aS) (t : Int32 × Int32) : w2 S t 34 17 = t.1 := by simp [w2, a_pf, a_wr, upd]
theorem w2_18 (S : aS) (t : Int32 × Int32) : w2 S t 34 18 = t.2 := by simp [w2, a_pf, a_wr, upd]
theorem w2_p18 (S : aS) (t : Int32 × Int32) (x : Int32) : a_pf (w2 S t) 34 17 x 34 18 = t.2 := by rw [a_pf_ne _ _ _ (by decide), w2_18]
theorem w2_new (S : aS) (t : Int32 × Int32) (a b : Int32) : a_pf (a_pf (w2 S t) 34 17 a) 34 18 b = w2 S (a, b) := by
  funext k j
  by_cases hk : k = 34
  · subst hk
    by_cases h1 : j = 17 <;> by_cases h2 : j = 18 <;> simp [w2, a_pf, a_wr, upd, h1, h2]
  · simp [w2, a_pf, a_wr, upd, hk]
theorem rw6_w2 (S : aS) (t : Int32 × Int32) : rw6 S (w2 S t) := rw6_trans (rw6_pf S t.1 (Or.inr ⟨by omega, by omega⟩)) (rw6_pf _ t.2 (Or.inr ⟨by omega, by omega⟩))
/-- how well the back fits: the squares' sum, how many -/
def ftF (p : Nat → Int32) (w h : Nat) (dx dy : Int32) (n : Nat) : Int32 × Int32 := it (fun d t => if unF w h d dx dy = -9 then t else (t.1 + (p (2 + d) - p (27 + (unF w h d dx dy).toNatClampNeg)) * (p (2 + d) - p (27 + (unF w h d dx dy).toNatClampNeg)), t.2 + 1)) (0, 0) n
theorem c_layFit {w h : Nat} {S : aS} (hp : pOk (S 37) w h) (dx dy : Int32) (G : aG) (Q : aQ) : aX mX6_layFit 0 [.ref 34, .int dx, .int dy, .null, .null, .null] [] S G Q ↔ Q none (w2 S (ftF (S 37) w h dx dy (w * h))) G := by
  obtain ⟨hn1, hn⟩ := pOk_n hp
  obtain ⟨⟨h0, h1, hw, hh⟩, -⟩ := hp
  have hr : rr 37 := Or.inr (Or.inl rfl)
  have key := lpx (P := fun i (v : Value × Value) Q => aX mX6_layFit 12 [.ref 34, .int dx, .int dy, .int (nI i), v.1, v.2] [] (w2 S (ftF (S 37) w h dx dy i)) G Q) (I := fun _ _ => True) (Nat.zero_le (w * h)) (fun i v _ hi _ => ?_) (.null, .null) trivial
  · obtain ⟨v, -, hv⟩ := key
    have e0 : a_pf (a_pf S 34 17 0) 34 18 0 = w2 S (ftF (S 37) w h dx dy 0) := rfl
    rw [x_X6_layFit_0, x_X6_layFit_5, x_X6_layFit_10, e0]
    simp only [a_cls_34, a_push_s, a_push_n, true_and, and_true, true_implies, false_implies, implies_true, not_true_eq_false, not_false_eq_true, e_10, e_01, e_11, e_00, or_true, true_or, or_false, false_or, and_self, false_and, and_false, Bool.false_eq_true, if_true, if_false]
    refine (hv Q).trans ?_
    simp only [x_X6_layFit_12, a_cls_34, a_rf_34_4, c_dotsOf hr (S := w2 S (ftF (S 37) w h dx dy (w * h))) (by rw [w2_row _ _ (by decide)]; exact h0) (by rw [w2_row _ _ (by decide)]; exact h1), x_X6_layFit_20, yle rfl (Nat.le_refl (w * h)) (show w * h < 2147483648 by omega), x_X6_layFit_93, a_push_s, a_push_n, true_and, and_true, true_implies, false_implies, implies_true, not_true_eq_false, not_false_eq_true, e_10, e_01, e_11, e_00, or_true, true_or, or_false, false_or, and_self, false_and, and_false, Bool.false_eq_true, if_true, if_false]
  · have g0 : (w2 S (ftF (S 37) w h dx dy i)) 37 0 = nI w := by rw [w2_row _ _ (by decide)]; exact h0
    have g1 : (w2 S (ftF (S 37) w h dx dy i)) 37 1 = nI h := by rw [w2_row _ _ (by decide)]; exact h1
    have hu := unF_rng hw hh (d := i) dx dy
    by_cases c : unF w h i dx dy = -9
    · refine ⟨(.int (-9), v.2), trivial, fun Q => ?_⟩
      have es : ftF (S 37) w h dx dy (i + 1) = ftF (S 37) w h dx dy i := by unfold ftF; rw [it_succ, if_pos c]
      refine (x_X6_layFit_12 _ _ _ _ _ _ _ _ _).trans ?_
      simp only [a_cls_34, a_rf_34_4, c_dotsOf hr g0 g1, x_X6_layFit_20, nle rfl hi (show w * h < 2147483648 by omega), x_X6_layFit_23, c_underOf hr g0 g1 hw (show i < 1000 by omega), x_X6_layFit_33, c, x_X6_layFit_87, nI_1, es, a_push_s, a_push_n, true_and, and_true, true_implies, false_implies, implies_true, not_true_eq_false, not_false_eq_true, e_10, e_01, e_11, e_00, or_true, true_or, or_false, false_or, and_self, false_and, and_false, Bool.false_eq_true, if_true, if_false]
    · obtain ⟨u, hu1, hu2⟩ := hu.resolve_left c
      have n9 : (nI u = -9) = False := by rw [← hu2]; exact eq_false c
      refine ⟨(.int (nI u), .int (S 37 (2 + i) - S 37 (27 + u))), trivial, fun Q => ?_⟩
      have es : ftF (S 37) w h dx dy (i + 1) = ((ftF (S 37) w h dx dy i).1 + (S 37 (2 + i) - S 37 (27 + u)) * (S 37 (2 + i) - S 37 (27 + u)), (ftF (S 37) w h dx dy i).2 + 1) := by
        unfold ftF; rw [it_succ, if_neg c, hu2, tc_n (by omega)]
      refine (x_X6_layFit_12 _ _ _ _ _ _ _ _ _).trans ?_
      simp only [a_cls_34, a_rf_34_4, c_dotsOf hr g0 g1, x_X6_layFit_20, nle rfl hi (show w * h < 2147483648 by omega), x_X6_layFit_23, c_underOf hr g0 g1 hw (show i < 1000 by omega), x_X6_layFit_33, hu2, n9, x_X6_layFit_42, a_len_37, a_get_37, add_2, add_27, ain (show 2 + i < 67 by omega) (by omega), ain (show 27 + u < 67 by omega) (by omega), tc_n (show 2 + i < 2147483648 by omega), tc_n (show 27 + u < 2147483648 by omega), x_X6_layFit_77, x_X6_layFit_87, nI_1, es, w2_row _ _ (show 37 ≠ 34 by decide), w2_17, w2_p18, w2_new, a_push_s, a_push_n, true_and, and_true, true_implies, false_implies, implies_true, not_true_eq_false, not_false_eq_true, e_10, e_01, e_11, e_00, or_true, true_or, or_false, false_or, and_self, false_and, and_false, Bool.false_eq_true, if_true, if_false]
/-- every dot may be made lighter by b -/
def clF (p : Nat → Int32) (b : Int32) (n : Nat) : Prop := ∀ d, d < n → 0 ≤ (p (2 + d) + b).toInt ∧ (p (2 + d) + b).toInt ≤ 9
theorem c_canLight {r w h : Nat} (hr : rr r) {S : aS} (hp : pOk (S r) w h) (b : Int32) (G : aG) (Q : aQ) : aX mX6_canLight 0 [.ref r, .int b, .null, .null] [] S G Q ↔ bq (clF (S r) b (w * h)) Q S G := by
  obtain ⟨hn1, hn⟩ := pOk_n hp
  obtain ⟨⟨h0, h1, hw, hh⟩, -⟩ := hp
  obtain ⟨z, hz, hX⟩ := lpx (τ := Int32) (P := fun i z Q => aX mX6_canLight 4 [.ref r, .int b, .int z, .int (nI i)] [] S G Q) (I := fun i z => (z = 1 ∧ clF (S r) b i) ∨ (z = 0 ∧ ¬ clF (S r) b i)) (Nat.zero_le (w * h)) (fun i z _ hi hz => by
    by_cases cc : 0 ≤ (S r (2 + i) + b).toInt ∧ (S r (2 + i) + b).toInt ≤ 9
    · refine ⟨z, ?_, fun Q => ?_⟩
      · rcases hz with ⟨e, hz⟩ | ⟨e, hz⟩
        · exact Or.inl ⟨e, fun d hd => by
            rcases Nat.lt_or_ge d i with q | q
            · exact hz d q
            · rw [show d = i by omega]; exact cc⟩
        · exact Or.inr ⟨e, fun q => hz (fun d hd => q d (by omega))⟩
      · refine (x_X6_canLight_4 _ _ _ _ S G Q).trans ?_
        rcases hz with ⟨e, hz⟩ | ⟨e, hz⟩
        · simp only [e, c_dotsOf hr h0 h1, x_X6_canLight_9, x_X6_canLight_12, x_X6_canLight_16, x_X6_canLight_31, x_X6_canLight_34, x_X6_canLight_38, x_X6_canLight_39, nle rfl hi (show w * h < 2147483648 by omega), rr_len hr, rr_get hr, add_2, ain (show 2 + i < 67 by omega) (by omega), tc_n (show 2 + i < 2147483648 by omega), c_in, i2l_i, tl_0, tl_9, bq, cc, nI_1, a_push_s, a_push_n, true_and, and_true, true_implies, false_implies, implies_true, not_true_eq_false, not_false_eq_true, e_10, e_01, e_11, e_00, or_true, true_or, or_false, false_or, and_self, false_and, and_false, Bool.false_eq_true, if_true, if_false]
        · simp only [e, c_dotsOf hr h0 h1, x_X6_canLight_9, x_X6_canLight_12, x_X6_canLight_16, x_X6_canLight_31, x_X6_canLight_34, x_X6_canLight_38, x_X6_canLight_39, nle rfl hi (show w * h < 2147483648 by omega), nI_1, a_push_s, a_push_n, true_and, and_true, true_implies, false_implies, implies_true, not_true_eq_false, not_false_eq_true, e_10, e_01, e_11, e_00, or_true, true_or, or_false, false_or, and_self, false_and, and_false, Bool.false_eq_true, if_true, if_false]
    · refine ⟨0, Or.inr ⟨rfl, fun q => cc (q i (by omega))⟩, fun Q => ?_⟩
      refine (x_X6_canLight_4 _ _ _ _ S G Q).trans ?_
      rcases hz with ⟨e, hz⟩ | ⟨e, hz⟩
      · simp only [e, c_dotsOf hr h0 h1, x_X6_canLight_9, x_X6_canLight_12, x_X6_canLight_16, x_X6_canLight_31, x_X6_canLight_34, x_X6_canLight_38, x_X6_canLight_39, nle rfl hi (show w * h < 2147483648 by omega), rr_len hr, rr_get hr, add_2, ain (show 2 + i < 67 by omega) (by omega), tc_n (show 2 + i < 2147483648 by omega), c_in, i2l_i, tl_0, tl_9, bq, cc, nI_1, a_push_s, a_push_n, true_and, and_true, true_implies, false_implies, implies_true, not_true_eq_false, not_false_eq_true, e_10, e_01, e_11, e_00, or_true, true_or, or_false, false_or, and_self, false_and, and_false, Bool.false_eq_true, if_true, if_false]
      · simp only [e, c_dotsOf hr h0 h1, x_X6_canLight_9, x_X6_canLight_12, x_X6_canLight_16, x_X6_canLight_31, x_X6_canLight_34, x_X6_canLight_38, x_X6_canLight_39, nle rfl hi (show w * h < 2147483648 by omega), nI_1, a_push_s, a_push_n, true_and, and_true, true_implies, false_implies, implies_true, not_true_eq_false, not_false_eq_true, e_10, e_01, e_11, e_00, or_true, true_or, or_false, false_or, and_self, false_and, and_false, Bool.false_eq_true, if_true, if_false]) 1 (Or.inl ⟨rfl, fun d hd => absurd hd (by omega)⟩)
  rw [x_X6_canLight_0]
  refine (hX Q).trans ?_
  rcases hz with ⟨e, hz⟩ | ⟨e, hz⟩
  · simp only [e, x_X6_canLight_4, c_dotsOf hr h0 h1, x_X6_canLight_9, yle rfl (Nat.le_refl (w * h)) (show w * h < 2147483648 by omega), x_X6_canLight_46, bq, hz, a_push_s, a_push_n, true_and, and_true, true_implies, false_implies, implies_true, not_true_eq_false, not_false_eq_true, e_10, e_01, e_11, e_00, or_true, true_or, or_false, false_or, and_self, false_and, and_false, Bool.false_eq_true, if_true, if_false]
  · simp only [e, x_X6_canLight_4, c_dotsOf hr h0 h1, x_X6_canLight_9, yle rfl (Nat.le_refl (w * h)) (show w * h < 2147483648 by omega), x_X6_canLight_46, bq, hz, a_push_s, a_push_n, true_and, and_true, true_implies, false_implies, implies_true, not_true_eq_false, not_false_eq_true, e_10, e_01, e_11, e_00, or_true, true_or, or_false, false_or, and_self, false_and, and_false, Bool.false_eq_true, if_true, if_false]
/-- a page made lighter -/
def liF (p : Nat → Int32) (b : Int32) (n : Nat) : Nat → Int32 := fun j => if 2 ≤ j ∧ j < 2 + n then p j + b else p j
theorem c_goLight {r w h : Nat} (hr : rr r) {S : aS} (hp : pOk (S r) w h) (b : Int32) (G : aG) (Q : aQ) : aX mX6_goLight 0 [.ref r, .int b, .null] [] S G Q ↔ Q none (a_wr S r (liF (S r) b (w * h))) G := by
  obtain ⟨hn1, hn⟩ := pOk_n hp
  obtain ⟨⟨h0, h1, hw, hh⟩, -⟩ := hp
  have hl := rr_lt hr
  have step : ∀ i, a_pf (a_wr S r (liF (S r) b i)) r (2 + i) (S r (2 + i) + b) = a_wr S r (liF (S r) b (i + 1)) := by
    intro i
    funext k j
    by_cases hk : k = r
    · subst hk
      by_cases hj : j = 2 + i
      · subst hj
        rw [a_pf_same, a_wr_same]
        unfold liF
        rw [if_pos (by omega)]
      · rw [a_pf_ne _ _ _ hj, a_wr_same, a_wr_same]
        unfold liF
        by_cases q : 2 ≤ j ∧ j < 2 + i
        · rw [if_pos q, if_pos (by omega)]
        · rw [if_neg q, if_neg (by omega)]
    · rw [a_pf_row _ _ _ hk, a_wr_ne _ _ hk, a_wr_ne _ _ hk]
  rw [x_X6_goLight_0]
  have hh2 := lp (n := w * h) (P := fun i => aX mX6_goLight 2 [.ref r, .int b, .int (nI i)] [] (a_wr S r (liF (S r) b i)) G Q) (fun i hi => by
    have g0 : (a_wr S r (liF (S r) b i)) r 0 = nI w := by rw [a_wr_same]; unfold liF; rw [if_neg (by omega)]; exact h0
    have g1 : (a_wr S r (liF (S r) b i)) r 1 = nI h := by rw [a_wr_same]; unfold liF; rw [if_neg (by omega)]; exact h1
    have g2 : (a_wr S r (liF (S r) b i)) r (2 + i) = S r (2 + i) := by rw [a_wr_same]; unfold liF; rw [if_neg (by omega)]
    refine (x_X6_goLight_2 _ _ _ _ G Q).trans ?_
    simp only [c_dotsOf hr g0 g1, x_X6_goLight_7, nle rfl hi (show w * h < 2147483648 by omega), x_X6_goLight_10, x_X6_goLight_19, rr_len hr, rr_get hr, add_2, ain (show 2 + i < 67 by omega) (by omega), tc_n (show 2 + i < 2147483648 by omega), hl, g2, step, nI_1, a_push_s, a_push_n, true_and, and_true, true_implies, false_implies, implies_true, not_true_eq_false, not_false_eq_true, e_10, e_01, e_11, e_00, or_true, true_or, or_false, false_or, and_self, false_and, and_false, Bool.false_eq_true, if_true, if_false])
  have e0 : a_wr S r (liF (S r) b 0) = S := by
    rw [show liF (S r) b 0 = S r from funext fun j => if_neg (by omega), a_wr_self]
  rw [e0] at hh2
  refine hh2.trans ?_
  have g0 : (a_wr S r (liF (S r) b (w * h))) r 0 = nI w := by rw [a_wr_same]; unfold liF; rw [if_neg (by omega)]; exact h0
  have g1 : (a_wr S r (liF (S r) b (w * h))) r 1 = nI h := by rw [a_wr_same]; unfold liF; rw [if_neg (by omega)]; exact h1
  simp only [x_X6_goLight_2, c_dotsOf hr g0 g1, x_X6_goLight_7, yle rfl (Nat.le_refl (w * h)) (show w * h < 2147483648 by omega), x_X6_goLight_25, a_push_s, a_push_n, true_and, and_true, true_implies, false_implies, implies_true, not_true_eq_false, not_false_eq_true, e_10, e_01, e_11, e_00, or_true, true_or, or_false, false_or, and_self, false_and, and_false, Bool.false_eq_true, if_true, if_false]
