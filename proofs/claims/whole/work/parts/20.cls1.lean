/-! THE CLASS: a sheet at a (its object; a + 1 leaf, a + 2 back, a + 3 table) -/
def sha (a : Nat) : Prop := a = 3 ∨ a = 7 ∨ a = 11 ∨ a = 15
theorem sha_cls {a : Nat} (h : sha a) : a_cls a = 3 := by rcases h with rfl | rfl | rfl | rfl <;> rfl
theorem sha_0 {a : Nat} (h : sha a) : a_rf a 0 = a + 1 := by rcases h with rfl | rfl | rfl | rfl <;> rfl
theorem sha_1 {a : Nat} (h : sha a) : a_rf a 1 = a + 2 := by rcases h with rfl | rfl | rfl | rfl <;> rfl
theorem sha_2 {a : Nat} (h : sha a) : a_rf a 2 = a + 3 := by rcases h with rfl | rfl | rfl | rfl <;> rfl
theorem sha_l1 {a : Nat} (h : sha a) (S : aS) : a_len S (a + 1) = 25 := by rcases h with rfl | rfl | rfl | rfl <;> rfl
theorem sha_l2 {a : Nat} (h : sha a) (S : aS) : a_len S (a + 2) = 25 := by rcases h with rfl | rfl | rfl | rfl <;> rfl
theorem sha_l3 {a : Nat} (h : sha a) (S : aS) : a_len S (a + 3) = 10 := by rcases h with rfl | rfl | rfl | rfl <;> rfl
theorem sha_g1 {a : Nat} (h : sha a) (S : aS) (i : Nat) : a_get S (a + 1) i = S (a + 1) i := by rcases h with rfl | rfl | rfl | rfl <;> rfl
theorem sha_g2 {a : Nat} (h : sha a) (S : aS) (i : Nat) : a_get S (a + 2) i = S (a + 2) i := by rcases h with rfl | rfl | rfl | rfl <;> rfl
theorem sha_g3 {a : Nat} (h : sha a) (S : aS) (i : Nat) : a_get S (a + 3) i = S (a + 3) i := by rcases h with rfl | rfl | rfl | rfl <;> rfl
theorem sha_t {a : Nat} (h : sha a) : (a + 1 < 45) = True ∧ (a + 2 < 45) = True ∧ (a + 3 < 45) = True := by rcases h with rfl | rfl | rfl | rfl <;> simp
theorem ylt {c : Int32} {n i : Nat} (hc : c = nI n) (hi : i < n) (hn : n < 2147483648) : (nI i < c) = True := eq_true (by rw [hc, lt_i, n_i (by omega), n_i (by omega)]; omega)
theorem nlt {c : Int32} {n i : Nat} (hc : c = nI n) (hi : n ≤ i) (hn : i < 2147483648) : (nI i < c) = False := eq_false (by rw [hc, lt_i, n_i (by omega), n_i (by omega)]; omega)
/-- width and height -/
def shW (S : aS) (a w h : Nat) : Prop := sha a ∧ S a 3 = nI w ∧ S a 4 = nI h ∧ (1 ≤ w ∧ w ≤ 5) ∧ (1 ≤ h ∧ h ≤ 5)
theorem shW_n {S : aS} {a w h : Nat} (hs : shW S a w h) : 1 ≤ w * h ∧ w * h ≤ 25 := by
  obtain ⟨-, -, -, hw, hh⟩ := hs
  exact ⟨Nat.mul_le_mul hw.1 hh.1, Nat.mul_le_mul hw.2 hh.2⟩
theorem c_dots {S : aS} {a w h : Nat} (hs : shW S a w h) (G : aG) (Q : aQ) : aX mX3_dots 0 [.ref a] [] S G Q ↔ Q (some (.int (nI (w * h)))) S G := by
  obtain ⟨ha, h0, h1, hw, hh⟩ := hs
  simp only [x_X3_dots_0, sha_cls ha, h0, h1, pk_mul, a_push_s, a_push_n, true_and, and_true, true_implies, false_implies, implies_true, not_true_eq_false, not_false_eq_true, e_10, e_01, e_11, e_00, or_true, true_or, or_false, false_or, and_self, false_and, and_false, Bool.false_eq_true, if_true, if_false]
theorem c_has5 {S : aS} {a w h : Nat} (hs : shW S a w h) (d : Int32) (G : aG) (Q : aQ) : aX mX3_has 0 [.ref a, .int d] [] S G Q ↔ bq (0 ≤ d.toInt ∧ d.toInt < (w * h : Nat)) Q S G := by
  have hn := shW_n hs
  obtain ⟨ha, h0, h1, hw, hh⟩ := hs
  simp only [x_X3_has_0, x_X3_has_4, x_X3_has_17, x_X3_has_23, x_X3_has_27, x_X3_has_28, sha_cls ha, h0, h1, pk_mul, lt_i, le_i, n_i (show w * h < 2147483648 by omega), ti_0, ti_25, a_push_s, a_push_n, true_and, and_true, true_implies, false_implies, implies_true, not_true_eq_false, not_false_eq_true, e_10, e_01, e_11, e_00, or_true, true_or, or_false, false_or, and_self, false_and, and_false, Bool.false_eq_true, if_true, if_false, bq]
  grind
theorem c_hasRow {S : aS} {a w h : Nat} (hs : shW S a w h) (r : Int32) (G : aG) (Q : aQ) : aX mX3_hasRow 0 [.ref a, .int r] [] S G Q ↔ bq (0 ≤ r.toInt ∧ r.toInt < (h : Nat)) Q S G := by
  obtain ⟨ha, h0, h1, hw, hh⟩ := hs
  simp only [x_X3_hasRow_0, x_X3_hasRow_4, x_X3_hasRow_12, x_X3_hasRow_16, x_X3_hasRow_17, sha_cls ha, h1, lt_i, le_i, n_i (show h < 2147483648 by omega), ti_0, a_push_s, a_push_n, true_and, and_true, true_implies, false_implies, implies_true, not_true_eq_false, not_false_eq_true, e_10, e_01, e_11, e_00, or_true, true_or, or_false, false_or, and_self, false_and, and_false, Bool.false_eq_true, if_true, if_false, bq]
  grind
theorem c_greyOf {a d : Nat} (ha : sha a) (hd : d < 25) (side : Int32) (S : aS) (G : aG) (Q : aQ) : aX mX3_greyOf 0 [.ref a, .int side, .int (nI d)] [] S G Q ↔ Q (some (.int (if side = 0 then S (a + 1) d else S (a + 2) d))) S G := by
  have c1 : (nI d < 0) = False := eq_false (nI_pos (by omega))
  simp only [x_X3_greyOf_0, x_X3_greyOf_4, x_X3_greyOf_10, x_X3_greyOf_13, x_X3_greyOf_17, x_X3_greyOf_26, x_X3_greyOf_32, c1, ylt (c := 25) (n := 25) rfl hd (by omega), sha_cls ha, sha_0 ha, sha_1 ha, sha_l1 ha, sha_l2 ha, sha_g1 ha, sha_g2 ha, ain hd (by omega), tc_n (show d < 2147483648 by omega), a_push_s, a_push_n, true_and, and_true, true_implies, false_implies, implies_true, not_true_eq_false, not_false_eq_true, e_10, e_01, e_11, e_00, or_true, true_or, or_false, false_or, and_self, false_and, and_false, Bool.false_eq_true, if_true, if_false]
  by_cases h : side = 0
  · simp only [h, a_push_s, a_push_n, true_and, and_true, true_implies, false_implies, implies_true, not_true_eq_false, not_false_eq_true, e_10, e_01, e_11, e_00, or_true, true_or, or_false, false_or, and_self, false_and, and_false, Bool.false_eq_true, if_true, if_false]
  · simp only [h, a_push_s, a_push_n, true_and, and_true, true_implies, false_implies, implies_true, not_true_eq_false, not_false_eq_true, e_10, e_01, e_11, e_00, or_true, true_or, or_false, false_or, and_self, false_and, and_false, Bool.false_eq_true, if_true, if_false]
theorem c_setGrey {S : aS} {a w h d : Nat} (hs : shW S a w h) (hd : d < w * h) (side v : Int32) (G : aG) (Q : aQ) : aX mX3_setGrey 0 [.ref a, .int side, .int (nI d), .int v] [] S G Q ↔ Q none (a_pf S (if side = 0 then a + 1 else a + 2) d v) G := by
  have hn := shW_n hs
  have ha := hs.1
  have hc : 0 ≤ (nI d).toInt ∧ (nI d).toInt < (w * h : Nat) := by rw [n_i (by omega)]; omega
  simp only [x_X3_setGrey_0, x_X3_setGrey_5, x_X3_setGrey_8, x_X3_setGrey_12, x_X3_setGrey_19, x_X3_setGrey_22, x_X3_setGrey_29, c_has5 hs, bq_t hc, sha_cls ha, sha_0 ha, sha_1 ha, sha_l1 ha, sha_l2 ha, sha_t ha, ain (show d < 25 by omega) (by omega), tc_n (show d < 2147483648 by omega), a_push_s, a_push_n, true_and, and_true, true_implies, false_implies, implies_true, not_true_eq_false, not_false_eq_true, e_10, e_01, e_11, e_00, or_true, true_or, or_false, false_or, and_self, false_and, and_false, Bool.false_eq_true, if_true, if_false]
  by_cases h : side = 0
  · simp only [h, a_push_s, a_push_n, true_and, and_true, true_implies, false_implies, implies_true, not_true_eq_false, not_false_eq_true, e_10, e_01, e_11, e_00, or_true, true_or, or_false, false_or, and_self, false_and, and_false, Bool.false_eq_true, if_true, if_false]
  · simp only [h, a_push_s, a_push_n, true_and, and_true, true_implies, false_implies, implies_true, not_true_eq_false, not_false_eq_true, e_10, e_01, e_11, e_00, or_true, true_or, or_false, false_or, and_self, false_and, and_false, Bool.false_eq_true, if_true, if_false]
theorem c_shownFor {a g : Nat} (ha : sha a) (hg : g ≤ 9) (S : aS) (G : aG) (Q : aQ) : aX mX3_shownFor 0 [.ref a, .int (nI g)] [] S G Q ↔ Q (some (.int (S (a + 3) g))) S G := by
  have c1 : (nI g < 0) = False := eq_false (nI_pos (by omega))
  simp only [x_X3_shownFor_0, x_X3_shownFor_4, x_X3_shownFor_10, x_X3_shownFor_19, x_X3_shownFor_20, c1, nle (c := 10) (n := 10) rfl (show g < 10 by omega) (by omega), sha_cls ha, sha_2 ha, sha_l3 ha, sha_g3 ha, ain (show g < 10 by omega) (by omega), tc_n (show g < 2147483648 by omega), a_push_s, a_push_n, true_and, and_true, true_implies, false_implies, implies_true, not_true_eq_false, not_false_eq_true, e_10, e_01, e_11, e_00, or_true, true_or, or_false, false_or, and_self, false_and, and_false, Bool.false_eq_true, if_true, if_false]
theorem c_setShown {a g : Nat} (ha : sha a) (hg : g ≤ 9) (v : Int32) (S : aS) (G : aG) (Q : aQ) : aX mX3_setShown 0 [.ref a, .int (nI g), .int v] [] S G Q ↔ Q none (a_pf S (a + 3) g v) G := by
  have hc : 0 ≤ (nI g).toInt ∧ (nI g).toInt ≤ 9 := by rw [n_i (by omega)]; omega
  simp only [x_X3_setShown_0, x_X3_setShown_4, x_X3_setShown_7, x_X3_setShown_14, c_isFigure, bq_t hc, sha_cls ha, sha_2 ha, sha_l3 ha, sha_t ha, ain (show g < 10 by omega) (by omega), tc_n (show g < 2147483648 by omega), a_push_s, a_push_n, true_and, and_true, true_implies, false_implies, implies_true, not_true_eq_false, not_false_eq_true, e_10, e_01, e_11, e_00, or_true, true_or, or_false, false_or, and_self, false_and, and_false, Bool.false_eq_true, if_true, if_false]
theorem c_setRule {a : Nat} (ha : sha a) (x y z : Int32) (S : aS) (G : aG) (Q : aQ) : aX mX3_setRule 0 [.ref a, .int x, .int y, .int z] [] S G Q ↔ Q none (a_pf (a_pf (a_pf S a 5 x) a 6 y) a 7 z) G := by
  simp only [x_X3_setRule_0, x_X3_setRule_5, x_X3_setRule_10, x_X3_setRule_15, sha_cls ha, a_push_s, a_push_n, true_and, and_true, true_implies, false_implies, implies_true, not_true_eq_false, not_false_eq_true, e_10, e_01, e_11, e_00, or_true, true_or, or_false, false_or, and_self, false_and, and_false, Bool.false_eq_true, if_true, if_false]
theorem c_setLie {a : Nat} (ha : sha a) (x y : Int32) (S : aS) (G : aG) (Q : aQ) : aX mX3_setLie 0 [.ref a, .int x, .int y] [] S G Q ↔ Q none (a_pf (a_pf S a 8 x) a 9 y) G := by
  simp only [x_X3_setLie_0, x_X3_setLie_5, x_X3_setLie_10, sha_cls ha, a_push_s, a_push_n, true_and, and_true, true_implies, false_implies, implies_true, not_true_eq_false, not_false_eq_true, e_10, e_01, e_11, e_00, or_true, true_or, or_false, false_or, and_self, false_and, and_false, Bool.false_eq_true, if_true, if_false]
theorem c_columnOf {S : aS} {a w h d : Nat} (hs : shW S a w h) (hd : d < 1000) (G : aG) (Q : aQ) : aX mX3_columnOf 0 [.ref a, .int (nI d)] [] S G Q ↔ Q (some (.int (nI (d % w)))) S G := by
  obtain ⟨ha, h0, h1, hw, hh⟩ := hs
  simp only [x_X3_columnOf_0, x_X3_columnOf_7, x_X3_columnOf_11, x_X3_columnOf_17, sha_cls ha, h0, ne0_w hw.1 hw.2, pk_div (show d < 2 ^ 31 by omega) (show 0 < w by omega) (show w < 2 ^ 31 by omega), rem_n, a_push_s, a_push_n, true_and, and_true, true_implies, false_implies, implies_true, not_true_eq_false, not_false_eq_true, e_10, e_01, e_11, e_00, or_true, true_or, or_false, false_or, and_self, false_and, and_false, Bool.false_eq_true, if_true, if_false]
theorem c_rowOf {S : aS} {a w h d : Nat} (hs : shW S a w h) (hd : d < 1000) (G : aG) (Q : aQ) : aX mX3_rowOf 0 [.ref a, .int (nI d)] [] S G Q ↔ Q (some (.int (nI (d / w)))) S G := by
  obtain ⟨ha, h0, h1, hw, hh⟩ := hs
  simp only [x_X3_rowOf_0, x_X3_rowOf_7, x_X3_rowOf_11, x_X3_rowOf_17, sha_cls ha, h0, ne0_w hw.1 hw.2, pk_div (show d < 2 ^ 31 by omega) (show 0 < w by omega) (show w < 2 ^ 31 by omega), a_push_s, a_push_n, true_and, and_true, true_implies, false_implies, implies_true, not_true_eq_false, not_false_eq_true, e_10, e_01, e_11, e_00, or_true, true_or, or_false, false_or, and_self, false_and, and_false, Bool.false_eq_true, if_true, if_false]
theorem c_lyingUnder {S : aS} {a w h d : Nat} (hs : shW S a w h) (hd : d < 1000) (dx dy : Int32) (G : aG) (Q : aQ) : aX mX3_lyingUnder 0 [.ref a, .int (nI d), .int dx, .int dy, .null, .null, .null] [] S G Q ↔ Q (some (.int (unF w h d dx dy))) S G := by
  obtain ⟨ha, h0, h1, hw, hh⟩ := hs
  simp only [x_X3_lyingUnder_0, x_X3_lyingUnder_7, x_X3_lyingUnder_10, x_X3_lyingUnder_42, x_X3_lyingUnder_51, x_X3_lyingUnder_56, x_X3_lyingUnder_65, x_X3_lyingUnder_69, x_X3_lyingUnder_70, x_X3_lyingUnder_77, x_X3_lyingUnder_90, x_X3_lyingUnder_92, sha_cls ha, h0, h1, ne0_w hw.1 hw.2, pk_div (show d < 2 ^ 31 by omega) (show 0 < w by omega) (show w < 2 ^ 31 by omega), rem_n, a_push_s, a_push_n, true_and, and_true, true_implies, false_implies, implies_true, not_true_eq_false, not_false_eq_true, e_10, e_01, e_11, e_00, or_true, true_or, or_false, false_or, and_self, false_and, and_false, Bool.false_eq_true, if_true, if_false, unF, nI_sub1 hw.1 (show w ≤ 1000 by omega), nI_sub1 hh.1 (show h ≤ 1000 by omega)]
  have e1 : ∀ x : Int32, (x < 0) = (x.toInt < 0) := fun x => by rw [lt_i]; rfl
  have e2 : ∀ x : Int32, (nI w ≤ x) = ((w : Int) ≤ x.toInt) := fun x => by rw [le_i, n_i (by omega)]
  have e3 : ∀ x : Int32, (nI h ≤ x) = ((h : Int) ≤ x.toInt) := fun x => by rw [le_i, n_i (by omega)]
  simp only [e1, e2, e3]
  generalize nI w - 1 - nI (d % w) + dx = x
  generalize nI (d / w) + dy = y
  rw [Int32.mul_comm y (nI w)]
  by_cases c1 : x.toInt < 0
  · have : ¬ ((0 ≤ x.toInt ∧ x.toInt ≤ (w : Int) - 1) ∧ (0 ≤ y.toInt ∧ y.toInt ≤ (h : Int) - 1)) := by omega
    simp only [c1, if_neg this, a_push_s, a_push_n, true_and, and_true, true_implies, false_implies, implies_true, not_true_eq_false, not_false_eq_true, e_10, e_01, e_11, e_00, or_true, true_or, or_false, false_or, and_self, false_and, and_false, Bool.false_eq_true, if_true, if_false]
  · by_cases c2 : (w : Int) ≤ x.toInt
    · have : ¬ ((0 ≤ x.toInt ∧ x.toInt ≤ (w : Int) - 1) ∧ (0 ≤ y.toInt ∧ y.toInt ≤ (h : Int) - 1)) := by omega
      simp only [c1, c2, if_neg this, a_push_s, a_push_n, true_and, and_true, true_implies, false_implies, implies_true, not_true_eq_false, not_false_eq_true, e_10, e_01, e_11, e_00, or_true, true_or, or_false, false_or, and_self, false_and, and_false, Bool.false_eq_true, if_true, if_false]
    · by_cases c3 : y.toInt < 0
      · have : ¬ ((0 ≤ x.toInt ∧ x.toInt ≤ (w : Int) - 1) ∧ (0 ≤ y.toInt ∧ y.toInt ≤ (h : Int) - 1)) := by omega
        simp only [c1, c2, c3, if_neg this, a_push_s, a_push_n, true_and, and_true, true_implies, false_implies, implies_true, not_true_eq_false, not_false_eq_true, e_10, e_01, e_11, e_00, or_true, true_or, or_false, false_or, and_self, false_and, and_false, Bool.false_eq_true, if_true, if_false]
      · by_cases c4 : (h : Int) ≤ y.toInt
        · have : ¬ ((0 ≤ x.toInt ∧ x.toInt ≤ (w : Int) - 1) ∧ (0 ≤ y.toInt ∧ y.toInt ≤ (h : Int) - 1)) := by omega
          simp only [c1, c2, c3, c4, if_neg this, a_push_s, a_push_n, true_and, and_true, true_implies, false_implies, implies_true, not_true_eq_false, not_false_eq_true, e_10, e_01, e_11, e_00, or_true, true_or, or_false, false_or, and_self, false_and, and_false, Bool.false_eq_true, if_true, if_false]
        · have : (0 ≤ x.toInt ∧ x.toInt ≤ (w : Int) - 1) ∧ (0 ≤ y.toInt ∧ y.toInt ≤ (h : Int) - 1) := by omega
          simp only [c1, c2, c3, c4, if_pos this, a_push_s, a_push_n, true_and, and_true, true_implies, false_implies, implies_true, not_true_eq_false, not_false_eq_true, e_10, e_01, e_11, e_00, or_true, true_or, or_false, false_or, and_self, false_and, and_false, Bool.false_eq_true, if_true, if_false]
/-- a sheet that holds a page -/
def sh (S : aS) (a : Nat) (p : Nat → Int32) (w h : Nat) : Prop := sha a ∧ S a 3 = p 0 ∧ S a 4 = p 1 ∧ (∀ d, d < w * h → S (a + 1) d = p (2 + d)) ∧ (∀ d, d < w * h → S (a + 2) d = p (27 + d)) ∧ (S a 5 = p 52 ∧ S a 6 = p 53 ∧ S a 7 = p 54) ∧ (∀ g, g ≤ 9 → S (a + 3) g = p (55 + g)) ∧ (S a 8 = p 65 ∧ S a 9 = p 66)
theorem sh_W {S : aS} {a w h : Nat} {p : Nat → Int32} (hs : sh S a p w h) (hp : pOk p w h) : shW S a w h := ⟨hs.1, hs.2.1.trans hp.1.1, hs.2.2.1.trans hp.1.2.1, hp.1.2.2.1, hp.1.2.2.2⟩
/-- a dot's grey without what shows through -/
def alF (p : Nat → Int32) (w h d : Nat) : Int32 := if unF w h d (p 65) (p 66) = -9 then p (2 + d) else moF p d (unF w h d (p 65) (p 66)).toNatClampNeg
theorem c_greyAlone {S : aS} {a w h d : Nat} {p : Nat → Int32} (hs : sh S a p w h) (hp : pOk p w h) (hd : d < w * h) (G : aG) (Q : aQ) : aX mX3_greyAlone 0 [.ref a, .int (nI d), .null, .null] [] S G Q ↔ Q (some (.int (alF p w h d))) S G := by
  have hW := sh_W hs hp
  have hn := shW_n hW
  obtain ⟨ha, -, -, hf, hb, -, ht, h8, h9⟩ := hs
  have hu := unF_rng hp.1.2.2.1 hp.1.2.2.2 (d := d) (p 65) (p 66)
  simp only [x_X3_greyAlone_0, x_X3_greyAlone_6, x_X3_greyAlone_20, x_X3_greyAlone_48, sha_cls ha, c_greyOf ha (show d < 25 by omega), c_lyingUnder hW (show d < 1000 by omega), h8, h9, hf d hd, a_push_s, a_push_n, true_and, and_true, true_implies, false_implies, implies_true, not_true_eq_false, not_false_eq_true, e_10, e_01, e_11, e_00, or_true, true_or, or_false, false_or, and_self, false_and, and_false, Bool.false_eq_true, if_true, if_false, alF]
  by_cases c : unF w h d (p 65) (p 66) = -9
  · simp only [c, x_X3_greyAlone_27, x_X3_greyAlone_48, a_push_s, a_push_n, true_and, and_true, true_implies, false_implies, implies_true, not_true_eq_false, not_false_eq_true, e_10, e_01, e_11, e_00, or_true, true_or, or_false, false_or, and_self, false_and, and_false, Bool.false_eq_true, if_true, if_false]
  · obtain ⟨u, hu1, hu2⟩ := hu.resolve_left c
    have n9 : (nI u = -9) = False := by rw [← hu2]; exact eq_false c
    obtain ⟨g, hg1, hg2⟩ := hp.2.2.1 u hu1
    simp only [hu2, n9, x_X3_greyAlone_27, x_X3_greyAlone_31, x_X3_greyAlone_41, x_X3_greyAlone_44, x_X3_greyAlone_48, sha_cls ha, c_greyOf ha (show u < 25 by omega), hb u hu1, hg2, c_shownFor ha hg1, ht g hg1, moF, tc_n (show u < 2147483648 by omega), tc_n (show g < 2147483648 by omega), a_push_s, a_push_n, true_and, and_true, true_implies, false_implies, implies_true, not_true_eq_false, not_false_eq_true, e_10, e_01, e_11, e_00, or_true, true_or, or_false, false_or, and_self, false_and, and_false, Bool.false_eq_true, if_true, if_false]
    have e : ∀ x : Int32, (if x < 9 then x else 9) = (if x ≤ 9 then x else 9) := fun x => by
      by_cases c1 : x < 9
      · have c2 : x ≤ 9 := by rw [le_i]; rw [lt_i] at c1; omega
        rw [if_pos c1, if_pos c2]
      · by_cases c2 : x ≤ 9
        · rw [if_neg c1, if_pos c2]
          apply Int32.toInt_inj.mp
          rw [le_i] at c2; rw [lt_i] at c1
          omega
        · rw [if_neg c1, if_neg c2]
    rw [e]
