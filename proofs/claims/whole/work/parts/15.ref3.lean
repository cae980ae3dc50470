def cpR (S : aS) (dst : Nat) (f : Nat → Int32) (o i : Nat) : aS := a_wr S dst (fun j => if o ≤ j ∧ j < o + i then f (j - o) else S dst j)
theorem cpR_0 (S : aS) (dst : Nat) (f : Nat → Int32) (o : Nat) : cpR S dst f o 0 = S := by
  unfold cpR
  rw [show (fun j => if o ≤ j ∧ j < o + 0 then f (j - o) else S dst j) = S dst from funext fun j => if_neg (by omega), a_wr_self]
theorem cpR_succ (S : aS) (dst : Nat) (f : Nat → Int32) (o i : Nat) : a_pf (cpR S dst f o i) dst (o + i) (f i) = cpR S dst f o (i + 1) := by
  funext k j
  by_cases hk : k = dst
  · subst hk
    by_cases hj : j = o + i
    · subst hj
      rw [a_pf_same]
      simp only [cpR, a_wr_same]
      rw [if_pos (by omega)]
      congr 1
      omega
    · rw [a_pf_ne _ _ _ hj]
      simp only [cpR, a_wr_same]
      by_cases h : o ≤ j ∧ j < o + i
      · rw [if_pos h, if_pos (by omega)]
      · rw [if_neg h, if_neg (by omega)]
  · rw [a_pf_row _ _ _ hk]
    simp only [cpR]
    rw [a_wr_ne _ _ hk, a_wr_ne _ _ hk]
theorem cpR_succ0 (S : aS) (dst : Nat) (f : Nat → Int32) (i : Nat) : a_pf (cpR S dst f 0 i) dst i (f i) = cpR S dst f 0 (i + 1) := by
  have := cpR_succ S dst f 0 i
  rwa [Nat.zero_add] at this
theorem cpR_row (S : aS) {dst k : Nat} (f : Nat → Int32) (o i : Nat) (h : k ≠ dst) : cpR S dst f o i k = S k := a_wr_ne _ _ h
theorem cpR_in (S : aS) (dst : Nat) (f : Nat → Int32) {o i j : Nat} (h : o ≤ j ∧ j < o + i) : cpR S dst f o i dst j = f (j - o) := by
  simp only [cpR, a_wr_same]; rw [if_pos h]
theorem cpR_out (S : aS) (dst : Nat) (f : Nat → Int32) {o i j : Nat} (h : ¬ (o ≤ j ∧ j < o + i)) : cpR S dst f o i dst j = S dst j := by
  simp only [cpR, a_wr_same]; rw [if_neg h]
theorem mul_67 (n : Nat) : (67 : Int32) * nI n = nI (67 * n) := pk_mul 67 n
theorem add_67 (n : Nat) : nI n + (67 : Int32) = nI (n + 67) := nI_add n 67
theorem nle {c : Int32} {n i : Nat} (hc : c = nI n) (hi : i < n) (hn : n < 2147483648) : (c ≤ nI i) = False := eq_false (by rw [hc, le_i, n_i (by omega), n_i (by omega)]; omega)
theorem yle {c : Int32} {n i : Nat} (hc : c = nI n) (hi : n ≤ i) (hn : i < 2147483648) : (c ≤ nI i) = True := eq_true (by rw [hc, le_i, n_i (by omega), n_i (by omega)]; omega)
theorem ain2 {a j n : Nat} (ha : a < 45) (h : j < n) (hn : n ≤ 2147483648) : (a < 45 ∧ a_in (nI j) n) = True := by rw [ain h hn]; exact eq_true ⟨ha, trivial⟩
theorem c_marks {w h k : Nat} {S : aS} (hp : pOk (S 37) w h) (hk : S 37 53 = nI k) (hk2 : k < 1000) (lo hi : Int32) (G : aG) : ∃ S', rw6 S S' ∧ ∀ Q, (aX mX6_marks 0 [.ref 34, .int lo, .int hi, .null, .null] [] S G Q ↔ Q (some (.int (it (fun d n => n + (if lo.toInt ≤ (mkF (S 37) w h d k (S 37 54)).toInt ∧ (mkF (S 37) w h d k (S 37 54)).toInt ≤ hi.toInt then 1 else 0)) 0 (w * h)))) S' G) := by
  obtain ⟨hn1, hn⟩ := pOk_n hp
  have hp' := hp
  obtain ⟨⟨h0, h1, hw, hh⟩, -⟩ := hp'
  have hr : rr 37 := Or.inr (Or.inl rfl)
  obtain ⟨S', hS', hX⟩ := lpx (P := fun i S' Q => aX mX6_marks 5 [.ref 34, .int lo, .int hi, .int (it (fun d n => n + (if lo.toInt ≤ (mkF (S 37) w h d k (S 37 54)).toInt ∧ (mkF (S 37) w h d k (S 37 54)).toInt ≤ hi.toInt then 1 else 0)) 0 i), .int (nI i)] [] S' G Q) (I := fun _ S' => rw6 S S') (Nat.zero_le (w * h)) (fun i T _ hi2 hT => by
    have e := hT.1 37 (by decide)
    refine ⟨w3 T (wF (T 37) w (w * h) i k), rw6_trans hT (rw6_w3 _ _), fun Q => ?_⟩
    have hc : ¬ nI (w * h) ≤ nI i := by rw [le_i, n_i (by omega), n_i (by omega)]; omega
    refine (x_X6_marks_5 _ _ _ _ _ _ _ _).trans ?_
    simp only [a_cls_34, a_rf_34_4, c_dotsOf hr (S := T) (by rw [e]; exact h0) (by rw [e]; exact h1), x_X6_marks_14, x_X6_marks_17, x_X6_marks_28, x_X6_marks_36, x_X6_marks_39, x_X6_marks_43, x_X6_marks_44, hc, c_markOf6 hr (S := T) (d := i) (k := k) (by rw [e]; exact hp) hi2 (by rw [e]; exact hk) hk2, c_in, i2l_i, bq, e, nI_1, it_succ, a_push_s, a_push_n, true_and, and_true, true_implies, false_implies, implies_true, not_true_eq_false, not_false_eq_true, e_10, e_01, e_11, e_00, or_true, true_or, or_false, false_or, and_self, false_and, and_false, Bool.false_eq_true, if_true, if_false]
    by_cases c1 : lo.toInt ≤ (mkF (S 37) w h i k (S 37 54)).toInt ∧ (mkF (S 37) w h i k (S 37 54)).toInt ≤ hi.toInt
    · simp only [c1, a_push_s, a_push_n, true_and, and_true, true_implies, false_implies, implies_true, not_true_eq_false, not_false_eq_true, e_10, e_01, e_11, e_00, or_true, true_or, or_false, false_or, and_self, false_and, and_false, Bool.false_eq_true, if_true, if_false]
    · simp only [c1, a_push_s, a_push_n, true_and, and_true, true_implies, false_implies, implies_true, not_true_eq_false, not_false_eq_true, e_10, e_01, e_11, e_00, or_true, true_or, or_false, false_or, and_self, false_and, and_false, Bool.false_eq_true, if_true, if_false]) S (rw6_refl S)
  refine ⟨S', hS', fun Q => ?_⟩
  have e := hS'.1 37 (by decide)
  rw [x_X6_marks_0]
  refine (hX Q).trans ?_
  simp only [x_X6_marks_5, a_cls_34, a_rf_34_4, c_dotsOf hr (S := S') (by rw [e]; exact h0) (by rw [e]; exact h1), x_X6_marks_14, yle rfl (Nat.le_refl (w * h)) (show w * h < 2147483648 by omega), x_X6_marks_52, a_push_s, a_push_n, true_and, and_true, true_implies, false_implies, implies_true, not_true_eq_false, not_false_eq_true, e_10, e_01, e_11, e_00, or_true, true_or, or_false, false_or, and_self, false_and, and_false, Bool.false_eq_true, if_true, if_false]
def grF (p : Nat → Int32) (n : Nat) : Int32 := it (fun d s => s + p (2 + d)) 0 n
theorem c_greys {r w h : Nat} (hr : rr r) {S : aS} (hp : pOk (S r) w h) (G : aG) (Q : aQ) : aX mX6_greys 0 [.ref r, .null, .null] [] S G Q ↔ Q (some (.int (grF (S r) (w * h)))) S G := by
  obtain ⟨hn1, hn⟩ := pOk_n hp
  obtain ⟨⟨h0, h1, hw, hh⟩, -⟩ := hp
  rw [x_X6_greys_0]
  refine (lp (n := w * h) (P := fun i => aX mX6_greys 4 [.ref r, .int (grF (S r) i), .int (nI i)] [] S G Q) (fun i hi => ?_)).trans ?_
  · refine (x_X6_greys_4 _ _ _ S G Q).trans ?_
    simp only [c_dotsOf hr h0 h1, x_X6_greys_9, nle rfl hi (show w * h < 2147483648 by omega), x_X6_greys_12, rr_len hr, rr_get hr, add_2, ain (show 2 + i < 67 by omega) (by omega), tc_n (show 2 + i < 2147483648 by omega), nI_1, grF, it_succ, a_push_s, a_push_n, true_and, and_true, true_implies, false_implies, implies_true, not_true_eq_false, not_false_eq_true, e_10, e_01, e_11, e_00, or_true, true_or, or_false, false_or, and_self, false_and, and_false, Bool.false_eq_true, if_true, if_false]
  · simp only [x_X6_greys_4, c_dotsOf hr h0 h1, x_X6_greys_9, yle rfl (Nat.le_refl (w * h)) (show w * h < 2147483648 by omega), x_X6_greys_26, a_push_s, a_push_n, true_and, and_true, true_implies, false_implies, implies_true, not_true_eq_false, not_false_eq_true, e_10, e_01, e_11, e_00, or_true, true_or, or_false, false_or, and_self, false_and, and_false, Bool.false_eq_true, if_true, if_false]
theorem c_begin (S : aS) (G : aG) (Q : aQ) : aX mX6_begin 0 [.ref 34, .null] [] S G Q ↔ Q none (cpR S 38 (S 37) 0 67) G := by
  rw [x_X6_begin_0]
  have h := lp (n := 67) (P := fun i => aX mX6_begin 2 [.ref 34, .int (nI i)] [] (cpR S 38 (S 37) 0 i) G Q) (fun i hi => by
    refine (x_X6_begin_2 _ _ _ G Q).trans ?_
    simp only [nle (c := 67) (n := 67) rfl hi (by omega), x_X6_begin_8, x_X6_begin_20, a_cls_34, a_rf_34_4, a_rf_34_5, a_len_37, a_len_38, a_get_37, ain hi (by omega), tc_n (show i < 2147483648 by omega), cpR_row S (S 37) 0 i (show 37 ≠ 38 by decide), cpR_succ0, nI_1, show (38 < 45) = True from eq_true (by decide), a_push_s, a_push_n, true_and, and_true, true_implies, false_implies, implies_true, not_true_eq_false, not_false_eq_true, e_10, e_01, e_11, e_00, or_true, true_or, or_false, false_or, and_self, false_and, and_false, Bool.false_eq_true, if_true, if_false])
  rw [cpR_0] at h
  refine h.trans ?_
  simp only [x_X6_begin_2, yle (c := 67) (n := 67) rfl (Nat.le_refl 67) (by omega), x_X6_begin_26, a_push_s, a_push_n, true_and, and_true, true_implies, false_implies, implies_true, not_true_eq_false, not_false_eq_true, e_10, e_01, e_11, e_00, or_true, true_or, or_false, false_or, and_self, false_and, and_false, Bool.false_eq_true, if_true, if_false]
/-- what a page's ink rests on -/
def agr (p q : Nat → Int32) (n : Nat) : Prop := (∀ d, d < n → p (2 + d) = q (2 + d)) ∧ (∀ d, d < n → p (27 + d) = q (27 + d)) ∧ p 52 = q 52 ∧ (∀ g, g ≤ 9 → p (55 + g) = q (55 + g)) ∧ p 65 = q 65 ∧ p 66 = q 66
theorem wF_congr {p q : Nat → Int32} {w n d k : Nat} (h : ∀ e, e < n → p (2 + e) = q (2 + e)) : wF p w n d k = wF q w n d k := it_congr fun e t he => by rw [h e he]
theorem mkF_congr {p q : Nat → Int32} {w h d k : Nat} (hw : 1 ≤ w ∧ w ≤ 5) (hh : 1 ≤ h ∧ h ≤ 5) (ha : agr p q (w * h)) (hb : ∀ e, e < w * h → ∃ g, g ≤ 9 ∧ p (27 + e) = nI g) (hd : d < w * h) (c : Int32) : mkF p w h d k c = mkF q w h d k c := by
  obtain ⟨h1, h2, h3, h4, h5, h6⟩ := ha
  have hu := unF_rng hw hh (d := d) (q 65) (q 66)
  unfold mkF
  rw [wF_congr h1, h1 d hd, h3, h5, h6]
  by_cases c2 : unF w h d (q 65) (q 66) = -9
  · simp only [c2, if_true]
  · obtain ⟨u, hu1, hu2⟩ := hu.resolve_left c2
    obtain ⟨g, hg1, hg2⟩ := hb u hu1
    have e : moF p d (unF w h d (q 65) (q 66)).toNatClampNeg = moF q d (unF w h d (q 65) (q 66)).toNatClampNeg := by
      unfold moF
      rw [hu2, tc_n (by have := Nat.mul_le_mul hw.2 hh.2; omega), h1 d hd, ← h2 u hu1, hg2, tc_n (by omega), h4 g hg1]
    rw [e]
theorem inkF_congr {p q : Nat → Int32} {w h k : Nat} (hw : 1 ≤ w ∧ w ≤ 5) (hh : 1 ≤ h ∧ h ≤ 5) (ha : agr p q (w * h)) (hb : ∀ e, e < w * h → ∃ g, g ≤ 9 ∧ p (27 + e) = nI g) (c : Int32) : inkF p w h k c = inkF q w h k c := it_congr fun d s hd => by rw [mkF_congr hw hh ha hb hd]
/-- the reference's scratch, and what it tries on -/
def rt6 (S S' : aS) : Prop := (∀ k, k ≠ 34 → k ≠ 36 → k ≠ 38 → k ≠ 44 → S' k = S k) ∧ ∀ j, ((1 ≤ j ∧ j ≤ 13) ∨ 21 ≤ j) → S' 34 j = S 34 j
theorem rt6_refl (S : aS) : rt6 S S := ⟨fun _ _ _ _ _ => rfl, fun _ _ => rfl⟩
theorem rt6_trans {S S' S2 : aS} (h : rt6 S S') (h2 : rt6 S' S2) : rt6 S S2 := ⟨fun k a b c d => (h2.1 k a b c d).trans (h.1 k a b c d), fun j hj => (h2.2 j hj).trans (h.2 j hj)⟩
theorem rt6_of {S S' : aS} (h : rw6 S S') : rt6 S S' := ⟨fun k a _ _ _ => h.1 k a, h.2⟩
theorem rt6_wr (S : aS) {r : Nat} (f : Nat → Int32) (hr : r = 36 ∨ r = 38 ∨ r = 44) : rt6 S (a_wr S r f) := ⟨fun k a b c d => a_wr_ne _ _ (by omega), fun j _ => by rw [a_wr_ne _ _ (by omega)]⟩
theorem rt6_pf (S : aS) {r : Nat} (j : Nat) (v : Int32) (hr : r = 36 ∨ r = 38 ∨ r = 44) : rt6 S (a_pf S r j v) := rt6_wr S _ hr
theorem c_inkBy {w h b : Nat} {S : aS} (hp : pOk (S 37) w h) (hb : b < 30) (G : aG) : ∃ S', rt6 S S' ∧ ∀ Q, (aX mX6_inkBy 0 [.ref 34, .int (nI b)] [] S G Q ↔ Q (some (.int (inkF (S 37) w h (b / 10) (nI (b % 10))))) S' G) := by
  have hr : rr 38 := Or.inr (Or.inr rfl)
  obtain ⟨T, hT⟩ : ∃ T, T = a_pf (a_pf (cpR S 38 (S 37) 0 67) 38 53 (nI (b / 10))) 38 54 (nI (b % 10)) := ⟨_, rfl⟩
  have e1 : ∀ i, i < 67 → i ≠ 53 → i ≠ 54 → T 38 i = S 37 i := fun i h1 h2 h3 => by
    rw [hT, a_pf_ne _ _ _ h3, a_pf_ne _ _ _ h2, cpR_in S 38 (S 37) (by omega)]
    congr 1
  have e53 : T 38 53 = nI (b / 10) := by rw [hT, a_pf_ne _ _ _ (by decide), a_pf_same]
  have e54 : T 38 54 = nI (b % 10) := by rw [hT, a_pf_same]
  have hp0 := hp
  obtain ⟨hn1, hn⟩ := pOk_n hp
  obtain ⟨⟨h0, h1, hw, hh⟩, hf, hbk, hru, -, -, htb, hdx, hdy⟩ := hp
  have hpT : pOk (T 38) w h := by
    refine ⟨⟨by rw [e1 0 (by omega) (by omega) (by omega)]; exact h0, by rw [e1 1 (by omega) (by omega) (by omega)]; exact h1, hw, hh⟩, fun d hd => by rw [e1 _ (by omega) (by omega) (by omega)]; exact hf d hd, fun d hd => by rw [e1 _ (by omega) (by omega) (by omega)]; exact hbk d hd, by rw [e1 _ (by omega) (by omega) (by omega)]; exact hru, ⟨b / 10, by omega, e53⟩, ⟨b % 10, by omega, e54⟩, fun g hg => by rw [e1 _ (by omega) (by omega) (by omega)]; exact htb g hg, by rw [e1 _ (by omega) (by omega) (by omega)]; exact hdx, by rw [e1 _ (by omega) (by omega) (by omega)]; exact hdy⟩
  have hag : agr (T 38) (S 37) (w * h) := ⟨fun d hd => e1 _ (by omega) (by omega) (by omega), fun d hd => e1 _ (by omega) (by omega) (by omega), e1 _ (by omega) (by omega) (by omega), fun g hg => e1 _ (by omega) (by omega) (by omega), e1 _ (by omega) (by omega) (by omega), e1 _ (by omega) (by omega) (by omega)⟩
  obtain ⟨S', hS', hX⟩ := c_inkOf hr hpT e53 (by omega) G
  refine ⟨S', rt6_trans (by rw [hT]; exact rt6_trans (rt6_wr S _ (by omega)) (rt6_trans (rt6_pf _ _ _ (by omega)) (rt6_pf _ _ _ (by omega)))) (rt6_of hS'), fun Q => ?_⟩
  have d1 : nI b / (10 : Int32) = nI (b / 10) := pk_div (d := 10) (by omega) (by omega) (by omega)
  have d2 : nI b - nI (b / 10) * (10 : Int32) = nI (b % 10) := rem_n b 10
  have a53 : a_in 53 67 = True := eq_true (by decide)
  have a54 : a_in 54 67 = True := eq_true (by decide)
  simp only [x_X6_inkBy_0, a_cls_34, c_begin, x_X6_inkBy_4, x_X6_inkBy_15, x_X6_inkBy_26, x_X6_inkBy_34, a_rf_34_5, a_len_38, a53, a54, tc_53, tc_54, d1, d2, show (38 < 45) = True from eq_true (by decide), ← hT, hX, e54, inkF_congr hw hh hag hpT.2.2.1, a_push_s, a_push_n, true_and, and_true, true_implies, false_implies, implies_true, not_true_eq_false, not_false_eq_true, e_10, e_01, e_11, e_00, or_true, true_or, or_false, false_or, and_self, false_and, and_false, Bool.false_eq_true, if_true, if_false]
theorem c_openRule {r : Nat} (hr : rr r) (S : aS) (G : aG) (Q : aQ) : aX mX6_openRule 0 [.ref r, .null] [] S G Q ↔ Q none (a_pf (a_pf (cpR S r (fun _ => 0) 52 15) r 53 1) r 54 1) G := by
  have hl := rr_lt hr
  rw [x_X6_openRule_0]
  have h := lp (n := 15) (P := fun i => aX mX6_openRule 3 [.ref r, .int (nI (52 + i))] [] (cpR S r (fun _ => 0) 52 i) G Q) (fun i hi => by
    refine (x_X6_openRule_3 _ _ _ G Q).trans ?_
    simp only [nle (c := 67) (n := 67) rfl (show 52 + i < 67 by omega) (by omega), x_X6_openRule_9, x_X6_openRule_13, rr_len hr, ain2 hl (show 52 + i < 67 by omega) (by omega), tc_n (show 52 + i < 2147483648 by omega), cpR_succ S r (fun _ => 0) 52 i, nI_1, Nat.add_assoc, a_push_s, a_push_n, true_and, and_true, true_implies, false_implies, implies_true, not_true_eq_false, not_false_eq_true, e_10, e_01, e_11, e_00, or_true, true_or, or_false, false_or, and_self, false_and, and_false, Bool.false_eq_true, if_true, if_false])
  rw [cpR_0] at h
  refine h.trans ?_
  have a53 : a_in 53 67 = True := eq_true (by decide)
  have a54 : a_in 54 67 = True := eq_true (by decide)
  simp only [x_X6_openRule_3, yle (c := 67) (n := 67) rfl (show 67 ≤ 52 + 15 by omega) (by omega), x_X6_openRule_19, x_X6_openRule_24, x_X6_openRule_29, rr_len hr, hl, a53, a54, tc_53, tc_54, a_push_s, a_push_n, true_and, and_true, true_implies, false_implies, implies_true, not_true_eq_false, not_false_eq_true, e_10, e_01, e_11, e_00, or_true, true_or, or_false, false_or, and_self, false_and, and_false, Bool.false_eq_true, if_true, if_false]
