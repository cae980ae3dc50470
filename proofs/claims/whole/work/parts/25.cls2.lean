/-! masks: a set of dots as bits -/
def mkS (P : Nat → Bool) (n : Nat) : Int32 := it (fun d s => s ||| (if P d = true then (1 : Int32) <<< (nI d &&& 31) else 0)) 0 n
theorem b_one (i : Nat) : bt 1 i = decide (i = 0) := by
  rcases Nat.lt_or_ge i 32 with h | h
  · exact (by decide +kernel : ∀ i, i < 32 → bt 1 i = decide (i = 0)) i h
  · rw [b_big h, decide_eq_false (by omega)]
theorem b_1shl {d i : Nat} (hd : d < 32) (hi : i < 32) : bt ((1 : Int32) <<< (nI d &&& 31)) i = decide (i = d) := by
  rw [b_shl d hd 1 hi, b_one]
  by_cases h : i = d
  · subst h; simp
  · by_cases h2 : d ≤ i
    · simp [h2, h]; omega
    · simp [h2, h]
theorem mkS_bt (P : Nat → Bool) : ∀ (n : Nat), n ≤ 32 → ∀ i, i < 32 → bt (mkS P n) i = (decide (i < n) && P i)
  | 0, _, i, _ => by rw [show mkS P 0 = 0 from rfl, b_0]; simp
  | n + 1, hn, i, hi => by
    have e : mkS P (n + 1) = mkS P n ||| (if P n = true then (1 : Int32) <<< (nI n &&& 31) else 0) := rfl
    rw [e, b_or, mkS_bt P n (by omega) i hi]
    by_cases hp : P n = true
    · rw [if_pos hp, b_1shl (by omega) hi]
      by_cases h : i = n
      · subst h; simp [hp]
      · by_cases h2 : i < n
        · simp [h, h2, show i < n + 1 by omega]
        · simp [h, h2, show ¬ i < n + 1 by omega]
    · rw [if_neg hp, b_0]
      by_cases h : i = n
      · subst h; simp [hp]
      · by_cases h2 : i < n
        · simp [h2, show i < n + 1 by omega]
        · simp [h2, show ¬ i < n + 1 by omega]
theorem bt_nI {N i : Nat} (hi : i < 32) : bt (nI N) i = N.testBit i := by
  unfold bt nI
  show (BitVec.ofNat 32 N).getLsbD i = _
  rw [BitVec.getLsbD_ofNat]; simp [hi]
/-- a mask whose bits are all below a -/
theorem mask_nat {x : Int32} {a : Nat} (ha : a ≤ 31) (h : ∀ i, i < 32 → a ≤ i → bt x i = false) : ∃ N, N < 2 ^ a ∧ x = nI N := by
  obtain ⟨n, hn, rfl⟩ := nI_of32 x
  refine ⟨n, ?_, rfl⟩
  apply Nat.lt_pow_two_of_testBit
  intro i hi
  rcases Nat.lt_or_ge i 32 with q | q
  · rw [← bt_nI q]; exact h i q hi
  · exact Nat.testBit_lt_two_pow (Nat.lt_of_lt_of_le hn (Nat.pow_le_pow_right (by omega) q))
theorem mkS_nat (P : Nat → Bool) {n : Nat} (hn : n ≤ 31) : ∃ N, N < 2 ^ n ∧ mkS P n = nI N := mask_nat hn (fun i hi h => by rw [mkS_bt P n (by omega) i hi]; simp; omega)
def cntP (P : Nat → Bool) (n : Nat) : Nat := it (fun k s => s + (if P k = true then 1 else 0)) 0 n
theorem cntN_bt {N : Nat} (P : Nat → Bool) : ∀ m, (∀ i, i < m → N.testBit i = P i) → cntN N m = cntP P m
  | 0, _ => rfl
  | m + 1, h => by
    have e1 : cntN N (m + 1) = cntN N m + N / 2 ^ m % 2 := rfl
    have e2 : cntP P (m + 1) = cntP P m + (if P m = true then 1 else 0) := rfl
    rw [e1, e2, cntN_bt P m (fun i hi => h i (by omega)), ← h m (by omega), Nat.testBit_eq_decide_div_mod_eq]
    congr 1
    have := Nat.mod_lt (N / 2 ^ m) (show 0 < 2 by omega)
    by_cases c : N / 2 ^ m % 2 = 1
    · simp [c]
    · simp [c]; omega
theorem cntP_out (P : Nat → Bool) (n : Nat) : ∀ m, cntP (fun i => decide (i < n) && P i) (n + m) = cntP (fun i => decide (i < n) && P i) n
  | 0 => rfl
  | m + 1 => by
    have e : cntP (fun i => decide (i < n) && P i) (n + (m + 1)) = cntP (fun i => decide (i < n) && P i) (n + m) + (if (decide (n + m < n) && P (n + m)) = true then 1 else 0) := rfl
    rw [e, cntP_out P n m]
    simp
    all_goals (intro h; omega)
theorem cntP_congr {P R : Nat → Bool} {n : Nat} (h : ∀ i, i < n → P i = R i) : cntP P n = cntP R n := it_congr fun i x hi => by rw [h i hi]
theorem many_mkS (P : Nat → Bool) {n : Nat} (hn : n ≤ 25) : manyF (mkS P n) = nI (cntP P n) := by
  obtain ⟨N, hN, e⟩ := mkS_nat P (n := n) (by omega)
  have hb : ∀ i, i < 25 → N.testBit i = (decide (i < n) && P i) := fun i hi => by rw [← bt_nI (by omega), ← e]; exact mkS_bt P n (by omega) i (by omega)
  have h25 : N < 2 ^ 25 := Nat.lt_of_lt_of_le hN (Nat.pow_le_pow_right (by omega) hn)
  rw [e, many_cnt (by omega), cntN_bt (fun i => decide (i < n) && P i) 25 hb]
  have := cntP_out P n (25 - n)
  rw [show n + (25 - n) = 25 by omega] at this
  rw [this]
  congr 1
  exact cntP_congr fun i hi => by simp [hi]
theorem c_bitCountS (P : Nat → Bool) {n : Nat} (hn : n ≤ 25) (S : aS) (G : aG) (Q : aQ) : aX mJ6_bitCount_0f7a4 0 [.int (mkS P n)] [] S G Q ↔ Q (some (.int (nI (cntP P n)))) S G := by
  obtain ⟨N, hN, e⟩ := mkS_nat P (n := n) (by omega)
  have h25 : N < 2 ^ 25 := Nat.lt_of_lt_of_le hN (Nat.pow_le_pow_right (by omega) hn)
  rw [e, c_bitCount (by omega), cnt_many h25, ← e, many_mkS P hn]
theorem dmF_mkS (p : Nat → Int32) (w h k : Nat) (c m : Int32) (n : Nat) : dmF p w h k c m n = mkS (fun d => decide (mkF p w h d k c = m)) n := it_congr fun d s _ => by
  by_cases c : mkF p w h d k c = m <;> simp [c]
theorem inkF_dmF (p : Nat → Int32) (w h k : Nat) (c : Int32) : inkF p w h k c = dmF p w h k c 2 (w * h) := rfl
/-- how many dots are m -/
def hmF (p : Nat → Int32) (w h k : Nat) (c m : Int32) : Nat := cntP (fun d => decide (mkF p w h d k c = m)) (w * h)
theorem many_ink {p : Nat → Int32} {w h : Nat} (hp : pOk p w h) (k : Nat) (c : Int32) : manyF (inkF p w h k c) = nI (hmF p w h k c 2) := by
  have hn := pOk_n hp
  rw [inkF_dmF, dmF_mkS, many_mkS _ (by omega)]
  rfl
theorem c_howMany {S : aS} {a w h k b : Nat} {p : Nat → Int32} (hs : sh S a p w h) (hp : pOk p w h) (hk : p 53 = nI k) (hk2 : k ≤ 2) (hb : p 54 = nI b) (hb2 : b ≤ 9) (m : Int32) (G : aG) : ∃ S', eyR S S' ∧ ∀ Q, (aX mX1_howMany 0 [.ref 19, .ref a, .int m] [] S G Q ↔ Q (some (.int (nI (hmF p w h k (nI b) m)))) S' G) := by
  have hn := pOk_n hp
  have ha := hs.1
  obtain ⟨S', r, e, h5, h6, hX⟩ := c_look hs hp hk2 G
  have s' := sh_eyR hs r
  refine ⟨S', r, fun Q => ?_⟩
  simp only [x_X1_howMany_0, sha_cls ha, a_cls_19, hs.2.2.2.2.2.1.2.1, hk, hX, x_X1_howMany_9, s'.2.2.2.2.2.1.2.2, hb, c_dotsMarked hp e h5 h6 hb2, x_X1_howMany_18, dmF_mkS, c_bitCountS _ hn.2, x_X1_howMany_21, hmF, a_push_s, a_push_n, true_and, and_true, true_implies, false_implies, implies_true, not_true_eq_false, not_false_eq_true, e_10, e_01, e_11, e_00, or_true, true_or, or_false, false_or, and_self, false_and, and_false, Bool.false_eq_true, if_true, if_false]
theorem ftF_1 (p : Nat → Int32) (w h : Nat) (dx dy : Int32) : ∀ n, (ftF p w h dx dy n).1 = it (fun d s => if unF w h d dx dy = -9 then s else s + (p (2 + d) - p (27 + (unF w h d dx dy).toNatClampNeg)) * (p (2 + d) - p (27 + (unF w h d dx dy).toNatClampNeg))) 0 n
  | 0 => rfl
  | n + 1 => by
    have e := ftF_1 p w h dx dy n
    unfold ftF at e ⊢
    rw [it_succ, it_succ, ← e]
    by_cases c : unF w h n dx dy = -9
    · rw [if_pos c, if_pos c]
    · rw [if_neg c, if_neg c]
theorem ftF_2 (p : Nat → Int32) (w h : Nat) (dx dy : Int32) : ∀ n, (ftF p w h dx dy n).2 = it (fun d s => s + (if unF w h d dx dy = -9 then 0 else 1)) 0 n
  | 0 => rfl
  | n + 1 => by
    have e := ftF_2 p w h dx dy n
    unfold ftF at e ⊢
    rw [it_succ, it_succ, ← e]
    by_cases c : unF w h n dx dy = -9
    · rw [if_pos c, if_pos c, Int32.add_zero]
    · rw [if_neg c, if_neg c]
theorem c_pairs {S : aS} {a w h : Nat} {p : Nat → Int32} (hs : sh S a p w h) (hp : pOk p w h) (dx dy : Int32) (G : aG) (Q : aQ) : aX mX3_pairs 0 [.ref a, .int dx, .int dy, .null, .null] [] S G Q ↔ Q (some (.int (ftF p w h dx dy (w * h)).2)) S G := by
  have hn := pOk_n hp
  have ha := hs.1
  have hW := sh_W hs hp
  rw [x_X3_pairs_0, ftF_2]
  refine (lp (n := w * h) (P := fun i => aX mX3_pairs 5 [.ref a, .int dx, .int dy, .int (it (fun d s => s + (if unF w h d dx dy = -9 then 0 else 1)) 0 i), .int (nI i)] [] S G Q) (fun i hi => ?_)).trans ?_
  · refine (x_X3_pairs_5 _ _ _ _ _ S G Q).trans ?_
    simp only [sha_cls ha, c_dots hW, x_X3_pairs_11, nle rfl hi (show w * h < 2147483648 by omega), x_X3_pairs_14, c_lyingUnder hW (show i < 1000 by omega), x_X3_pairs_23, x_X3_pairs_28, x_X3_pairs_32, x_X3_pairs_33, nI_1, it_succ, a_push_s, a_push_n, true_and, and_true, true_implies, false_implies, implies_true, not_true_eq_false, not_false_eq_true, e_10, e_01, e_11, e_00, or_true, true_or, or_false, false_or, and_self, false_and, and_false, Bool.false_eq_true, if_true, if_false]
    by_cases c : unF w h i dx dy = -9
    · simp only [c, a_push_s, a_push_n, true_and, and_true, true_implies, false_implies, implies_true, not_true_eq_false, not_false_eq_true, e_10, e_01, e_11, e_00, or_true, true_or, or_false, false_or, and_self, false_and, and_false, Bool.false_eq_true, if_true, if_false]
    · simp only [c, a_push_s, a_push_n, true_and, and_true, true_implies, false_implies, implies_true, not_true_eq_false, not_false_eq_true, e_10, e_01, e_11, e_00, or_true, true_or, or_false, false_or, and_self, false_and, and_false, Bool.false_eq_true, if_true, if_false]
  · simp only [x_X3_pairs_5, sha_cls ha, c_dots hW, x_X3_pairs_11, yle rfl (Nat.le_refl (w * h)) (show w * h < 2147483648 by omega), x_X3_pairs_41, a_push_s, a_push_n, true_and, and_true, true_implies, false_implies, implies_true, not_true_eq_false, not_false_eq_true, e_10, e_01, e_11, e_00, or_true, true_or, or_false, false_or, and_self, false_and, and_false, Bool.false_eq_true, if_true, if_false]
theorem c_difference {S : aS} {a w h : Nat} {p : Nat → Int32} (hs : sh S a p w h) (hp : pOk p w h) (dx dy : Int32) (G : aG) (Q : aQ) : aX mX3_difference 0 [.ref a, .int dx, .int dy, .null, .null, .null, .null] [] S G Q ↔ Q (some (.int (ftF p w h dx dy (w * h)).1)) S G := by
  have hn := pOk_n hp
  have ha := hs.1
  have hW := sh_W hs hp
  obtain ⟨hw, hh⟩ := hp.1.2.2
  rw [x_X3_difference_0, ftF_1]
  obtain ⟨v, -, hX⟩ := lpx (τ := Value × Value) (P := fun i v Q => aX mX3_difference 5 [.ref a, .int dx, .int dy, .int (it (fun d s => if unF w h d dx dy = -9 then s else s + (p (2 + d) - p (27 + (unF w h d dx dy).toNatClampNeg)) * (p (2 + d) - p (27 + (unF w h d dx dy).toNatClampNeg))) 0 i), .int (nI i), v.1, v.2] [] S G Q) (I := fun _ _ => True) (Nat.zero_le (w * h)) (fun i v _ hi _ => by
    by_cases c : unF w h i dx dy = -9
    · refine ⟨(.int (-9), v.2), trivial, fun Q => ?_⟩
      refine (x_X3_difference_5 _ _ _ _ _ _ _ S G Q).trans ?_
      simp only [sha_cls ha, c_dots hW, x_X3_difference_11, nle rfl hi (show w * h < 2147483648 by omega), x_X3_difference_14, c_lyingUnder hW (show i < 1000 by omega), x_X3_difference_22, c, x_X3_difference_56, nI_1, it_succ, a_push_s, a_push_n, true_and, and_true, true_implies, false_implies, implies_true, not_true_eq_false, not_false_eq_true, e_10, e_01, e_11, e_00, or_true, true_or, or_false, false_or, and_self, false_and, and_false, Bool.false_eq_true, if_true, if_false]
    · obtain ⟨u, hu1, hu2⟩ := (unF_rng hw hh (d := i) dx dy).resolve_left c
      have n9 : (nI u = -9) = False := by rw [← hu2]; exact eq_false c
      refine ⟨(.int (nI u), .int (p (2 + i) - p (27 + u))), trivial, fun Q => ?_⟩
      refine (x_X3_difference_5 _ _ _ _ _ _ _ S G Q).trans ?_
      simp only [sha_cls ha, c_dots hW, x_X3_difference_11, nle rfl hi (show w * h < 2147483648 by omega), x_X3_difference_14, c_lyingUnder hW (show i < 1000 by omega), x_X3_difference_22, hu2, n9, x_X3_difference_31, x_X3_difference_38, x_X3_difference_45, c_greyOf ha (show i < 25 by omega), c_greyOf ha (show u < 25 by omega), hs.2.2.2.1 i hi, hs.2.2.2.2.1 u hu1, tc_n (show u < 2147483648 by omega), x_X3_difference_56, nI_1, it_succ, a_push_s, a_push_n, true_and, and_true, true_implies, false_implies, implies_true, not_true_eq_false, not_false_eq_true, e_10, e_01, e_11, e_00, or_true, true_or, or_false, false_or, and_self, false_and, and_false, Bool.false_eq_true, if_true, if_false]) (.null, .null) trivial
  refine (hX Q).trans ?_
  simp only [x_X3_difference_5, sha_cls ha, c_dots hW, x_X3_difference_11, yle rfl (Nat.le_refl (w * h)) (show w * h < 2147483648 by omega), x_X3_difference_62, a_push_s, a_push_n, true_and, and_true, true_implies, false_implies, implies_true, not_true_eq_false, not_false_eq_true, e_10, e_01, e_11, e_00, or_true, true_or, or_false, false_or, and_self, false_and, and_false, Bool.false_eq_true, if_true, if_false]
theorem c_greysTogether {S : aS} {a w h : Nat} {p : Nat → Int32} (hs : sh S a p w h) (hp : pOk p w h) (G : aG) (Q : aQ) : aX mX3_greysTogether 0 [.ref a, .null, .null] [] S G Q ↔ Q (some (.int (grF p (w * h)))) S G := by
  have hn := pOk_n hp
  have ha := hs.1
  have hW := sh_W hs hp
  rw [x_X3_greysTogether_0]
  refine (lp (n := w * h) (P := fun i => aX mX3_greysTogether 4 [.ref a, .int (grF p i), .int (nI i)] [] S G Q) (fun i hi => ?_)).trans ?_
  · refine (x_X3_greysTogether_4 _ _ _ S G Q).trans ?_
    simp only [sha_cls ha, c_dots hW, x_X3_greysTogether_9, nle rfl hi (show w * h < 2147483648 by omega), x_X3_greysTogether_12, x_X3_greysTogether_19, c_greyOf ha (show i < 25 by omega), hs.2.2.2.1 i hi, nI_1, grF, it_succ, a_push_s, a_push_n, true_and, and_true, true_implies, false_implies, implies_true, not_true_eq_false, not_false_eq_true, e_10, e_01, e_11, e_00, or_true, true_or, or_false, false_or, and_self, false_and, and_false, Bool.false_eq_true, if_true, if_false]
  · simp only [x_X3_greysTogether_4, sha_cls ha, c_dots hW, x_X3_greysTogether_9, yle rfl (Nat.le_refl (w * h)) (show w * h < 2147483648 by omega), x_X3_greysTogether_27, a_push_s, a_push_n, true_and, and_true, true_implies, false_implies, implies_true, not_true_eq_false, not_false_eq_true, e_10, e_01, e_11, e_00, or_true, true_or, or_false, false_or, and_self, false_and, and_false, Bool.false_eq_true, if_true, if_false]
theorem c_staysGrey {S : aS} {a w h : Nat} {p : Nat → Int32} (hs : sh S a p w h) (hp : pOk p w h) (b : Int32) (G : aG) (Q : aQ) : aX mX3_staysGrey 0 [.ref a, .int b, .null, .null] [] S G Q ↔ bq (clF p b (w * h)) Q S G := by
  have hn := pOk_n hp
  have ha := hs.1
  have hW := sh_W hs hp
  obtain ⟨z, hz, hX⟩ := lpx (τ := Int32) (P := fun i z Q => aX mX3_staysGrey 4 [.ref a, .int b, .int z, .int (nI i)] [] S G Q) (I := fun i z => (z = 1 ∧ clF p b i) ∨ (z = 0 ∧ ¬ clF p b i)) (Nat.zero_le (w * h)) (fun i z _ hi hz => by
    by_cases cc : 0 ≤ (p (2 + i) + b).toInt ∧ (p (2 + i) + b).toInt ≤ 9
    · refine ⟨z, ?_, fun Q => ?_⟩
      · rcases hz with ⟨e, hz⟩ | ⟨e, hz⟩
        · exact Or.inl ⟨e, fun d hd => by
            rcases Nat.lt_or_ge d i with q | q
            · exact hz d q
            · rw [show d = i by omega]; exact cc⟩
        · exact Or.inr ⟨e, fun q => hz (fun d hd => q d (by omega))⟩
      · refine (x_X3_staysGrey_4 _ _ _ _ S G Q).trans ?_
        rcases hz with ⟨e, hz⟩ | ⟨e, hz⟩
        · simp only [e, sha_cls ha, c_dots hW, x_X3_staysGrey_9, x_X3_staysGrey_12, x_X3_staysGrey_16, x_X3_staysGrey_22, x_X3_staysGrey_27, x_X3_staysGrey_30, x_X3_staysGrey_34, x_X3_staysGrey_35, nle rfl hi (show w * h < 2147483648 by omega), c_greyOf ha (show i < 25 by omega), hs.2.2.2.1 i hi, c_isFigure, bq, cc, nI_1, a_push_s, a_push_n, true_and, and_true, true_implies, false_implies, implies_true, not_true_eq_false, not_false_eq_true, e_10, e_01, e_11, e_00, or_true, true_or, or_false, false_or, and_self, false_and, and_false, Bool.false_eq_true, if_true, if_false]
        · simp only [e, sha_cls ha, c_dots hW, x_X3_staysGrey_9, x_X3_staysGrey_12, x_X3_staysGrey_16, x_X3_staysGrey_22, x_X3_staysGrey_27, x_X3_staysGrey_30, x_X3_staysGrey_34, x_X3_staysGrey_35, nle rfl hi (show w * h < 2147483648 by omega), nI_1, a_push_s, a_push_n, true_and, and_true, true_implies, false_implies, implies_true, not_true_eq_false, not_false_eq_true, e_10, e_01, e_11, e_00, or_true, true_or, or_false, false_or, and_self, false_and, and_false, Bool.false_eq_true, if_true, if_false]
    · refine ⟨0, Or.inr ⟨rfl, fun q => cc (q i (by omega))⟩, fun Q => ?_⟩
      refine (x_X3_staysGrey_4 _ _ _ _ S G Q).trans ?_
      rcases hz with ⟨e, hz⟩ | ⟨e, hz⟩
      · simp only [e, sha_cls ha, c_dots hW, x_X3_staysGrey_9, x_X3_staysGrey_12, x_X3_staysGrey_16, x_X3_staysGrey_22, x_X3_staysGrey_27, x_X3_staysGrey_30, x_X3_staysGrey_34, x_X3_staysGrey_35, nle rfl hi (show w * h < 2147483648 by omega), c_greyOf ha (show i < 25 by omega), hs.2.2.2.1 i hi, c_isFigure, bq, cc, nI_1, a_push_s, a_push_n, true_and, and_true, true_implies, false_implies, implies_true, not_true_eq_false, not_false_eq_true, e_10, e_01, e_11, e_00, or_true, true_or, or_false, false_or, and_self, false_and, and_false, Bool.false_eq_true, if_true, if_false]
      · simp only [e, sha_cls ha, c_dots hW, x_X3_staysGrey_9, x_X3_staysGrey_12, x_X3_staysGrey_16, x_X3_staysGrey_22, x_X3_staysGrey_27, x_X3_staysGrey_30, x_X3_staysGrey_34, x_X3_staysGrey_35, nle rfl hi (show w * h < 2147483648 by omega), nI_1, a_push_s, a_push_n, true_and, and_true, true_implies, false_implies, implies_true, not_true_eq_false, not_false_eq_true, e_10, e_01, e_11, e_00, or_true, true_or, or_false, false_or, and_self, false_and, and_false, Bool.false_eq_true, if_true, if_false]) 1 (Or.inl ⟨rfl, fun d hd => absurd hd (by omega)⟩)
  rw [x_X3_staysGrey_0]
  refine (hX Q).trans ?_
  rcases hz with ⟨e, hz⟩ | ⟨e, hz⟩
  · simp only [e, x_X3_staysGrey_4, sha_cls ha, c_dots hW, x_X3_staysGrey_9, yle rfl (Nat.le_refl (w * h)) (show w * h < 2147483648 by omega), x_X3_staysGrey_42, bq, hz, a_push_s, a_push_n, true_and, and_true, true_implies, false_implies, implies_true, not_true_eq_false, not_false_eq_true, e_10, e_01, e_11, e_00, or_true, true_or, or_false, false_or, and_self, false_and, and_false, Bool.false_eq_true, if_true, if_false]
  · simp only [e, x_X3_staysGrey_4, sha_cls ha, c_dots hW, x_X3_staysGrey_9, yle rfl (Nat.le_refl (w * h)) (show w * h < 2147483648 by omega), x_X3_staysGrey_42, bq, hz, a_push_s, a_push_n, true_and, and_true, true_implies, false_implies, implies_true, not_true_eq_false, not_false_eq_true, e_10, e_01, e_11, e_00, or_true, true_or, or_false, false_or, and_self, false_and, and_false, Bool.false_eq_true, if_true, if_false]
