/-! THE SPEC over a page p (the reference's layout: 0 width, 1 height, 2 + d leaf, 27 + d back, 52 rule, 53 reach, 54 bound, 55 + g table, 65 66 lie) -/
def rr (r : Nat) : Prop := r = 36 ∨ r = 37 ∨ r = 38
theorem rr_len {r : Nat} (h : rr r) (S : aS) : a_len S r = 67 := by rcases h with rfl | rfl | rfl <;> rfl
theorem rr_get {r : Nat} (h : rr r) (S : aS) (i : Nat) : a_get S r i = S r i := by rcases h with rfl | rfl | rfl <;> rfl
theorem rr_ne {r : Nat} (h : rr r) : r ≠ 34 := by rcases h with rfl | rfl | rfl <;> decide
theorem rr_lt {r : Nat} (h : rr r) : r < 45 := by rcases h with rfl | rfl | rfl <;> decide
theorem lpx {τ : Type} {P : Nat → τ → aQ → Prop} {I : Nat → τ → Prop} {a n : Nat} (han : a ≤ n) (h : ∀ i t, a ≤ i → i < n → I i t → ∃ t', I (i + 1) t' ∧ ∀ Q, (P i t Q ↔ P (i + 1) t' Q)) : ∀ t, I a t → ∃ t', I n t' ∧ ∀ Q, (P a t Q ↔ P n t' Q) := by
  induction n with
  | zero => intro t ht; rw [Nat.le_zero.mp han] at ht ⊢; exact ⟨t, ht, fun _ => Iff.rfl⟩
  | succ n ih =>
    intro t ht
    rcases Nat.lt_or_ge a (n + 1) with q | q
    · obtain ⟨t1, h1, h2⟩ := ih (by omega) (fun i t h1 h2 => h i t h1 (by omega)) t ht
      obtain ⟨t2, h3, h4⟩ := h n t1 (by omega) (by omega) h1
      exact ⟨t2, h3, fun Q => (h2 Q).trans (h4 Q)⟩
    · rw [show n + 1 = a by omega]; exact ⟨t, ht, fun _ => Iff.rfl⟩
theorem i2l_i (x : Int32) : (Int32.toInt64 x).toInt = x.toInt := Int32.toInt_toInt64 x
theorem tl_0 : (0 : Int64).toInt = 0 := rfl
theorem tl_1 : (1 : Int64).toInt = 1 := rfl
theorem tl_2 : (2 : Int64).toInt = 2 := rfl
theorem tl_3 : (3 : Int64).toInt = 3 := rfl
theorem tl_5 : (5 : Int64).toInt = 5 := rfl
theorem tl_9 : (9 : Int64).toInt = 9 := rfl
theorem tl_10 : (10 : Int64).toInt = 10 := rfl
theorem tl_20 : (20 : Int64).toInt = 20 := rfl
theorem tl_25 : (25 : Int64).toInt = 25 := rfl
theorem tl_255 : (255 : Int64).toInt = 255 := rfl
theorem tl_m9 : (-9 : Int64).toInt = -9 := rfl
theorem tl_m1 : (-1 : Int64).toInt = -1 := rfl
theorem tc_0 : Int32.toNatClampNeg 0 = 0 := rfl
theorem tc_1 : Int32.toNatClampNeg 1 = 1 := rfl
theorem tc_2 : Int32.toNatClampNeg 2 = 2 := rfl
theorem tc_27 : Int32.toNatClampNeg 27 = 27 := rfl
theorem tc_52 : Int32.toNatClampNeg 52 = 52 := rfl
theorem tc_53 : Int32.toNatClampNeg 53 = 53 := rfl
theorem tc_54 : Int32.toNatClampNeg 54 = 54 := rfl
theorem tc_55 : Int32.toNatClampNeg 55 = 55 := rfl
theorem tc_65 : Int32.toNatClampNeg 65 = 65 := rfl
theorem tc_66 : Int32.toNatClampNeg 66 = 66 := rfl
theorem n_i {n : Nat} (h : n < 2147483648) : (nI n).toInt = (n : Int) := nI_toInt h
theorem ain {j n : Nat} (h : j < n) (hn : n ≤ 2147483648) : a_in (nI j) n = True := by
  have := n_i (n := j) (by omega)
  exact eq_true ⟨by omega, by omega⟩
theorem rem_n (a d : Nat) : nI a - nI (a / d) * nI d = nI (a % d) := by
  rw [pk_mul, pk_sub (Nat.div_mul_le_self a d)]
  congr 1
  have := Nat.div_add_mod a d
  rw [Nat.mul_comm] at this
  omega
theorem add_n (a b : Nat) : nI a + nI b = nI (a + b) := nI_add a b
theorem add_2 (b : Nat) : (2 : Int32) + nI b = nI (2 + b) := nI_add 2 b
theorem add_27 (b : Nat) : (27 : Int32) + nI b = nI (27 + b) := nI_add 27 b
theorem add_55 (b : Nat) : (55 : Int32) + nI b = nI (55 + b) := nI_add 55 b
theorem add_3 (b : Nat) : (3 : Int32) + nI b = nI (3 + b) := nI_add 3 b
theorem tc_n {n : Nat} (h : n < 2147483648) : (nI n).toNatClampNeg = n := nI_clamp h
def fr (a b : Nat) : Nat := if a < b then b - a else a - b
def nr (w d e k : Nat) : Prop := fr (d % w) (e % w) ≤ k ∧ fr (d / w) (e / w) ≤ k
def nrB (w d e k : Nat) : Bool := decide (fr (d % w) (e % w) ≤ k) && decide (fr (d / w) (e / w) ≤ k)
def wF (p : Nat → Int32) (w n d k : Nat) : Int32 × Int32 × Int32 := it (fun e t => if nrB w d e k = true then (t.1 + 1, t.2.1 + p (2 + e), t.2.2 + p (2 + e) * p (2 + e)) else t) (0, 0, 0) n
def dkF (ru n su sq v c : Int32) : Bool := if ru = 0 then decide (n * v + n * c < su) else if ru = 2 then decide (v < c) else decide (0 < su - n * v ∧ c * c * (n * sq - su * su) < 100 * (su - n * v) * (su - n * v))
def unF (w h d : Nat) (dx dy : Int32) : Int32 :=
  if (0 ≤ (nI w - 1 - nI (d % w) + dx).toInt ∧ (nI w - 1 - nI (d % w) + dx).toInt ≤ (nI w - 1).toInt) ∧ (0 ≤ (nI (d / w) + dy).toInt ∧ (nI (d / w) + dy).toInt ≤ (nI h - 1).toInt) then nI w * (nI (d / w) + dy) + (nI w - 1 - nI (d % w) + dx) else -9
theorem c_has6 (x k : Int32) (S : aS) (G : aG) (Q : aQ) : aX mX6_has 0 [.int x, .int k] [] S G Q ↔ bq ((x >>> (k &&& 31)) &&& 1 = 1) Q S G := by
  simp only [x_X6_has_0, x_X6_has_9, x_X6_has_13, x_X6_has_14, a_push_s, a_push_n, true_and, and_true, true_implies, false_implies, implies_true, not_true_eq_false, not_false_eq_true, e_10, e_01, e_11, e_00, or_true, true_or, or_false, false_or, and_self, false_and, and_false, Bool.false_eq_true, if_true, if_false, bq]
  grind
def manyF (x : Int32) : Int32 := it (fun k n => n + ((x >>> (nI k &&& 31)) &&& 1)) 0 25
theorem c_many (x : Int32) (S : aS) (G : aG) (Q : aQ) : aX mX6_many 0 [.int x, .null, .null] [] S G Q ↔ Q (some (.int (manyF x))) S G := by
  rw [x_X6_many_0]
  refine (lp (n := 25) (P := fun i => aX mX6_many 4 [.int x, .int (it (fun k n => n + ((x >>> (nI k &&& 31)) &&& 1)) 0 i), .int (nI i)] [] S G Q) (fun i hi => ?_)).trans ?_
  · have hc : ¬ (25 : Int32) ≤ nI i := by rw [le_i, n_i (by omega)]; simp only [ti_25]; omega
    refine (x_X6_many_4 _ _ _ S G Q).trans ?_
    simp only [x_X6_many_10, hc, a_push_s, a_push_n, true_and, and_true, true_implies, false_implies, implies_true, not_true_eq_false, not_false_eq_true, e_10, e_01, e_11, e_00, or_true, true_or, or_false, false_or, and_self, false_and, and_false, Bool.false_eq_true, if_true, if_false, nI_1, it_succ]
  · have hc : (25 : Int32) ≤ nI 25 := by decide
    simp only [x_X6_many_4, x_X6_many_24, hc, a_push_s, a_push_n, true_and, and_true, true_implies, false_implies, implies_true, not_true_eq_false, not_false_eq_true, e_10, e_01, e_11, e_00, or_true, true_or, or_false, false_or, and_self, false_and, and_false, Bool.false_eq_true, if_true, if_false]
    exact Iff.rfl
theorem c_far (a b : Nat) (ha : a < 2147483648) (hb : b < 2147483648) (S : aS) (G : aG) (Q : aQ) : aX mX6_far 0 [.int (nI a), .int (nI b)] [] S G Q ↔ Q (some (.int (nI (fr a b)))) S G := by
  simp only [x_X6_far_0, x_X6_far_5, x_X6_far_11, x_X6_far_14, le_i, n_i ha, n_i hb, a_push_s, a_push_n, true_and, and_true, true_implies, false_implies, implies_true, not_true_eq_false, not_false_eq_true, e_10, e_01, e_11, e_00, or_true, true_or, or_false, false_or, and_self, false_and, and_false, Bool.false_eq_true, if_true, if_false]
  by_cases h : a < b
  · have h1 : ¬ (b : Int) ≤ (a : Int) := by omega
    simp only [h1, a_push_s, a_push_n, true_and, and_true, true_implies, false_implies, implies_true, not_true_eq_false, not_false_eq_true, e_10, e_01, e_11, e_00, or_true, true_or, or_false, false_or, and_self, false_and, and_false, Bool.false_eq_true, if_true, if_false, fr, if_pos h, pk_sub (Nat.le_of_lt h)]
  · have h1 : (b : Int) ≤ (a : Int) := by omega
    simp only [h1, a_push_s, a_push_n, true_and, and_true, true_implies, false_implies, implies_true, not_true_eq_false, not_false_eq_true, e_10, e_01, e_11, e_00, or_true, true_or, or_false, false_or, and_self, false_and, and_false, Bool.false_eq_true, if_true, if_false, fr, if_neg h, pk_sub (Nat.le_of_not_lt h)]
theorem c_dotsOf {r w h : Nat} (hr : rr r) {S : aS} (h0 : S r 0 = nI w) (h1 : S r 1 = nI h) (G : aG) (Q : aQ) : aX mX6_dotsOf 0 [.ref r] [] S G Q ↔ Q (some (.int (nI (w * h)))) S G := by
  have a0 : a_in 0 67 = True := eq_true (by decide)
  have a1 : a_in 1 67 = True := eq_true (by decide)
  simp only [x_X6_dotsOf_0, rr_len hr, rr_get hr, a0, a1, tc_0, tc_1, h0, h1, pk_mul, a_push_s, a_push_n, true_and, and_true, true_implies, false_implies, implies_true, not_true_eq_false, not_false_eq_true, e_10, e_01, e_11, e_00, or_true, true_or, or_false, false_or, and_self, false_and, and_false, Bool.false_eq_true, if_true, if_false]
theorem c_noDot {w h : Nat} {S : aS} (h0 : S 37 0 = nI w) (h1 : S 37 1 = nI h) (hn : w * h < 1000) (d : Int32) (G : aG) (Q : aQ) : aX mX6_noDot 0 [.ref 34, .int d] [] S G Q ↔ bq (¬ (0 ≤ d.toInt ∧ d.toInt < (w * h : Nat))) Q S G := by
  have e1 : (nI (w * h) - 1).toInt = (w * h : Nat) - 1 := by
    have := pk_sub_toInt (a := w * h) (b := 1) (by omega) (by omega)
    exact this
  simp only [x_X6_noDot_0, x_X6_noDot_10, x_X6_noDot_16, x_X6_noDot_19, x_X6_noDot_23, x_X6_noDot_24, a_cls_34, a_rf_34_4, c_dotsOf (r := 37) (Or.inr (Or.inl rfl)) h0 h1, c_in, i2l_i, tl_0, e1, a_push_s, a_push_n, true_and, and_true, true_implies, false_implies, implies_true, not_true_eq_false, not_false_eq_true, e_10, e_01, e_11, e_00, or_true, true_or, or_false, false_or, and_self, false_and, and_false, Bool.false_eq_true, if_true, if_false, bq]
  grind
def w3 (S : aS) (t : Int32 × Int32 × Int32) : aS := a_pf (a_pf (a_pf S 34 14 t.1) 34 15 t.2.1) 34 16 t.2.2
theorem w3_row (S : aS) (t : Int32 × Int32 × Int32) {b : Nat} (h : b ≠ 34) : w3 S t b = S b := by unfold w3; rw [a_pf_row _ _ _ h, a_pf_row _ _ _ h, a_pf_row _ _ _ h]
theorem w3_14 (S : aS) (t : Int32 × Int32 × Int32) : w3 S t 34 14 = t.1 := by simp [w3, a_pf, a_wr, upd]
theorem w3_15 (S : aS) (t : Int32 × Int32 × Int32) : w3 S t 34 15 = t.2.1 := by simp [w3, a_pf, a_wr, upd]
theorem w3_16 (S : aS) (t : Int32 × Int32 × Int32) : w3 S t 34 16 = t.2.2 := by simp [w3, a_pf, a_wr, upd]
theorem w3_o (S : aS) (t : Int32 × Int32 × Int32) {j : Nat} (h : j < 14 ∨ 16 < j) : w3 S t 34 j = S 34 j := by
  have h1 : j ≠ 14 := by omega
  have h2 : j ≠ 15 := by omega
  have h3 : j ≠ 16 := by omega
  simp [w3, a_pf, a_wr, upd, h1, h2, h3]
theorem w3_new (S : aS) (t : Int32 × Int32 × Int32) (a b c : Int32) : a_pf (a_pf (a_pf (w3 S t) 34 14 a) 34 15 b) 34 16 c = w3 S (a, b, c) := by
  funext k j
  by_cases hk : k = 34
  · subst hk
    by_cases h1 : j = 14 <;> by_cases h2 : j = 15 <;> by_cases h3 : j = 16 <;> simp [w3, a_pf, a_wr, upd, h1, h2, h3]
  · simp [w3, a_pf, a_wr, upd, hk]
theorem w3_p15 (S : aS) (t : Int32 × Int32 × Int32) (x : Int32) : a_pf (w3 S t) 34 14 x 34 15 = t.2.1 := by rw [a_pf_ne _ _ _ (by decide), w3_15]
theorem w3_p16 (S : aS) (t : Int32 × Int32 × Int32) (x y : Int32) : a_pf (a_pf (w3 S t) 34 14 x) 34 15 y 34 16 = t.2.2 := by rw [a_pf_ne _ _ _ (by decide), a_pf_ne _ _ _ (by decide), w3_16]
theorem ne0_w {w : Nat} (h1 : 1 ≤ w) (h2 : w ≤ 5) : ¬ nI w = 0 := nI_ne0 (by omega) (by omega)
theorem c_layWindow {r w h d k : Nat} (hr : rr r) {S : aS} (h0 : S r 0 = nI w) (h1 : S r 1 = nI h) (hw : 1 ≤ w ∧ w ≤ 5) (hh : 1 ≤ h ∧ h ≤ 5) (hd : d < w * h) (hk : k < 1000) (G : aG) (Q : aQ) : aX mX6_layWindow 0 [.ref 34, .ref r, .int (nI d), .int (nI k), .null, .null] [] S G Q ↔ Q none (w3 S (wF (S r) w (w * h) d k)) G := by
  have hn : w * h ≤ 25 := Nat.mul_le_mul hw.2 hh.2
  have hw0 := ne0_w hw.1 hw.2
  have a0 : a_in 0 67 = True := eq_true (by decide)
  have hrn := rr_ne hr
  have key := lpx (P := fun e (v : Value) Q => aX mX6_layWindow 18 [.ref 34, .ref r, .int (nI d), .int (nI k), .int (nI e), v] [] (w3 S (wF (S r) w e d k)) G Q) (I := fun _ _ => True) (Nat.zero_le (w * h)) (fun e v _ he _ => ?_) .null trivial
  · obtain ⟨v, -, hv⟩ := key
    have e0 : a_pf (a_pf (a_pf S 34 14 0) 34 15 0) 34 16 0 = w3 S (wF (S r) w 0 d k) := rfl
    have hc : nI (w * h) ≤ nI (w * h) := by rw [le_i]; exact Int.le_refl _
    rw [x_X6_layWindow_0, x_X6_layWindow_5, x_X6_layWindow_10, x_X6_layWindow_15, e0]
    simp only [a_cls_34, a_push_s, a_push_n, true_and, and_true, true_implies, false_implies, implies_true, not_true_eq_false, not_false_eq_true, e_10, e_01, e_11, e_00, or_true, true_or, or_false, false_or, and_self, false_and, and_false, Bool.false_eq_true, if_true, if_false]
    refine (hv Q).trans ?_
    simp only [x_X6_layWindow_18, c_dotsOf hr (S := w3 S (wF (S r) w (w * h) d k)) (by rw [w3_row _ _ hrn]; exact h0) (by rw [w3_row _ _ hrn]; exact h1), x_X6_layWindow_24, hc, x_X6_layWindow_112, a_push_s, a_push_n, true_and, and_true, true_implies, false_implies, implies_true, not_true_eq_false, not_false_eq_true, e_10, e_01, e_11, e_00, or_true, true_or, or_false, false_or, and_self, false_and, and_false, Bool.false_eq_true, if_true, if_false]
  · have hc : ¬ nI (w * h) ≤ nI e := by rw [le_i, n_i (by omega), n_i (by omega)]; omega
    have g0 : (w3 S (wF (S r) w e d k)) r 0 = nI w := by rw [w3_row _ _ hrn]; exact h0
    have g1 : (w3 S (wF (S r) w e d k)) r 1 = nI h := by rw [w3_row _ _ hrn]; exact h1
    have m1 : d % w < 2147483648 := by have := Nat.mod_lt d (show 0 < w by omega); omega
    have m2 : e % w < 2147483648 := by have := Nat.mod_lt e (show 0 < w by omega); omega
    have m3 : d / w < 2147483648 := by have := Nat.div_le_self d w; omega
    have m4 : e / w < 2147483648 := by have := Nat.div_le_self e w; omega
    have f1 : ∀ a b, a < 100 → b < 100 → fr a b < 100 := by intro a b h1 h2; unfold fr; split <;> omega
    have l1 : ∀ a b : Nat, a < 100 → b < 1000 → (nI b < nI a) = (b < a) := by intro a b h1 h2; rw [lt_i, n_i (by omega), n_i (by omega)]; simp
    have q1 : d % w < 100 := by have := Nat.mod_lt d (show 0 < w by omega); omega
    have q2 : e % w < 100 := by have := Nat.mod_lt e (show 0 < w by omega); omega
    have q3 : d / w < 100 := by have := Nat.div_le_self d w; omega
    have q4 : e / w < 100 := by have := Nat.div_le_self e w; omega
    have ai : a_in (nI (2 + e)) 67 = True := ain (by omega) (by omega)
    have hst : ∀ v Q, (aX mX6_layWindow 18 [.ref 34, .ref r, .int (nI d), .int (nI k), .int (nI e), v] [] (w3 S (wF (S r) w e d k)) G Q ↔ (if nrB w d e k = true then aX mX6_layWindow 18 [.ref 34, .ref r, .int (nI d), .int (nI k), .int (nI (e + 1)), .int (S r (2 + e))] [] (w3 S (wF (S r) w (e + 1) d k)) G Q else aX mX6_layWindow 18 [.ref 34, .ref r, .int (nI d), .int (nI k), .int (nI (e + 1)), v] [] (w3 S (wF (S r) w (e + 1) d k)) G Q)) := by
      intro v Q
      refine (x_X6_layWindow_18 _ _ _ _ _ _ _ _ _).trans ?_
      simp only [c_dotsOf hr g0 g1, x_X6_layWindow_24, hc, x_X6_layWindow_27, rr_len hr, rr_get hr, a0, tc_0, g0, hw0, rem_n, pk_div (show d < 2 ^ 31 by omega) (show 0 < w by omega) (show w < 2 ^ 31 by omega), pk_div (show e < 2 ^ 31 by omega) (show 0 < w by omega) (show w < 2 ^ 31 by omega), c_far _ _ m1 m2, c_far _ _ m3 m4, x_X6_layWindow_41, x_X6_layWindow_45, x_X6_layWindow_59, l1 _ _ (f1 _ _ q1 q2) hk, l1 _ _ (f1 _ _ q3 q4) hk, x_X6_layWindow_63, x_X6_layWindow_81, x_X6_layWindow_92, x_X6_layWindow_106, add_2, ai, a_cls_34, tc_n (show 2 + e < 2147483648 by omega), w3_row _ _ hrn, nI_1, a_push_s, a_push_n, true_and, and_true, true_implies, false_implies, implies_true, not_true_eq_false, not_false_eq_true, e_10, e_01, e_11, e_00, or_true, true_or, or_false, false_or, and_self, false_and, and_false, Bool.false_eq_true, if_true, if_false]
      by_cases c1 : fr (d % w) (e % w) ≤ k
      · by_cases c2 : fr (d / w) (e / w) ≤ k
        · have n1 : ¬ k < fr (d % w) (e % w) := by omega
          have n2 : ¬ k < fr (d / w) (e / w) := by omega
          have hb : nrB w d e k = true := by simp [nrB, c1, c2]
          have es : wF (S r) w (e + 1) d k = ((wF (S r) w e d k).1 + 1, (wF (S r) w e d k).2.1 + S r (2 + e), (wF (S r) w e d k).2.2 + S r (2 + e) * S r (2 + e)) := by
            unfold wF; rw [it_succ, if_pos hb]
          simp only [n1, n2, hb, a_push_s, a_push_n, true_and, and_true, true_implies, false_implies, implies_true, not_true_eq_false, not_false_eq_true, e_10, e_01, e_11, e_00, or_true, true_or, or_false, false_or, and_self, false_and, and_false, Bool.false_eq_true, if_true, if_false, if_true, es, w3_14, w3_p15, w3_p16, w3_new]
        · have n1 : ¬ k < fr (d % w) (e % w) := by omega
          have n2 : k < fr (d / w) (e / w) := by omega
          have hb : ¬ nrB w d e k = true := by simp [nrB, c2]
          have es : wF (S r) w (e + 1) d k = wF (S r) w e d k := by unfold wF; rw [it_succ, if_neg hb]
          simp only [n1, n2, a_push_s, a_push_n, true_and, and_true, true_implies, false_implies, implies_true, not_true_eq_false, not_false_eq_true, e_10, e_01, e_11, e_00, or_true, true_or, or_false, false_or, and_self, false_and, and_false, Bool.false_eq_true, if_true, if_false, if_neg hb, es]
      · have n1 : k < fr (d % w) (e % w) := by omega
        have hb : ¬ nrB w d e k = true := by simp [nrB, c1]
        have es : wF (S r) w (e + 1) d k = wF (S r) w e d k := by unfold wF; rw [it_succ, if_neg hb]
        simp only [n1, a_push_s, a_push_n, true_and, and_true, true_implies, false_implies, implies_true, not_true_eq_false, not_false_eq_true, e_10, e_01, e_11, e_00, or_true, true_or, or_false, false_or, and_self, false_and, and_false, Bool.false_eq_true, if_true, if_false, if_neg hb, es]
    by_cases hb : nrB w d e k = true
    · exact ⟨_, trivial, fun Q => (hst v Q).trans (by rw [if_pos hb])⟩
    · exact ⟨_, trivial, fun Q => (hst v Q).trans (by rw [if_neg hb])⟩
