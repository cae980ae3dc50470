theorem c_isPlace (d : Int32) (S : aS) (G : aG) (Q : aQ) : aX mX1_isPlace 0 [.int d] [] S G Q ↔ bq (0 ≤ d.toInt ∧ d.toInt < 25) Q S G := by
  simp only [x_X1_isPlace_0, x_X1_isPlace_4, x_X1_isPlace_10, x_X1_isPlace_14, x_X1_isPlace_15, a_push_s, a_push_n, true_and, and_true, true_implies, false_implies, implies_true, not_true_eq_false, not_false_eq_true, e_10, e_01, e_11, e_00, or_true, true_or, or_false, false_or, and_self, false_and, and_false, Bool.false_eq_true, if_true, if_false, bq, lt_i, le_i, ti_0, ti_25]
  grind
theorem c_isPlaceN {d : Nat} (hd : d < 25) (S : aS) (G : aG) (Q : aQ) : aX mX1_isPlace 0 [.int (nI d)] [] S G Q ↔ Q (some (.int 1)) S G := by
  rw [c_isPlace, bq_t]
  rw [n_i (by omega)]; omega
theorem wF_bound {p : Nat → Int32} {w n d k : Nat} (hp : ∀ e, e < n → ∃ g, g ≤ 9 ∧ p (2 + e) = nI g) : ∃ N s q, N ≤ n ∧ s ≤ 9 * N ∧ q ≤ 81 * N ∧ wF p w n d k = (nI N, nI s, nI q) := by
  induction n with
  | zero => exact ⟨0, 0, 0, Nat.le_refl _, Nat.le_refl _, Nat.le_refl _, rfl⟩
  | succ n ih =>
    obtain ⟨N, s, q, h1, h2, h3, h4⟩ := ih (fun e he => hp e (by omega))
    obtain ⟨g, hg, eg⟩ := hp n (by omega)
    unfold wF at h4 ⊢
    rw [it_succ, h4]
    by_cases c : nrB w d n k = true
    · rw [if_pos c]
      have hgg : g * g ≤ 81 := Nat.mul_le_mul hg hg
      refine ⟨N + 1, s + g, q + g * g, by omega, by omega, by omega, ?_⟩
      simp only [eg, nI_1, nI_add, pk_mul]
    · rw [if_neg c]
      exact ⟨N, s, q, by omega, h2, h3, rfl⟩
theorem c_isDark5 {S : aS} {d ru N s g b : Nat} (hd : d < 25) (h5 : S 19 5 = nI ru) (hru : ru ≤ 2) (h20 : S 20 d = nI N) (hN : N ≤ 25) (h21 : S 21 d = nI s) (hs : s ≤ 225) (hg : g ≤ 9) (hb : b ≤ 9) (G : aG) (Q : aQ) : aX mX1_isDark 0 [.ref 19, .int (nI d), .int (nI g), .int (nI b), .null, .null, .null] [] S G Q ↔ bq (dkF (S 19 5) (S 20 d) (S 21 d) (S 22 d) (nI g) (nI b) = true) Q S G := by
  have hc : 0 ≤ (nI d).toInt ∧ (nI d).toInt < 25 := by rw [n_i (by omega)]; omega
  have m1 : N * g ≤ 225 := Nat.mul_le_mul hN hg
  have m2 : N * b ≤ 225 := Nat.mul_le_mul hN hb
  simp only [x_X1_isDark_0, x_X1_isDark_4, x_X1_isDark_7, x_X1_isDark_9, x_X1_isDark_84, x_X1_isDark_93, x_X1_isDark_97, x_X1_isDark_98, x_X1_isDark_99, x_X1_isDark_104, x_X1_isDark_121, x_X1_isDark_125, x_X1_isDark_126, x_X1_isDark_127, x_X1_isDark_132, x_X1_isDark_136, x_X1_isDark_137, c_isPlaceN hd, a_cls_19, a_rf_19_0, a_rf_19_1, a_rf_19_2, a_len_20, a_len_21, a_len_22, a_get_20, a_get_21, a_get_22, ain hd (show 25 ≤ 2147483648 by omega), tc_n (show d < 2147483648 by omega), a_push_s, a_push_n, true_and, and_true, true_implies, false_implies, implies_true, not_true_eq_false, not_false_eq_true, e_10, e_01, e_11, e_00, or_true, true_or, or_false, false_or, and_self, false_and, and_false, Bool.false_eq_true, if_true, if_false, bq, dkF, h5]
  rcases (show ru = 0 ∨ ru = 1 ∨ ru = 2 by omega) with e | e | e
  · subst e
    have z0 : (nI 0 = 0) = True := eq_true (by decide)
    have z1 : (nI 0 = 1) = False := eq_false (by decide)
    simp only [z0, z1, h20, h21, a_push_s, a_push_n, true_and, and_true, true_implies, false_implies, implies_true, not_true_eq_false, not_false_eq_true, e_10, e_01, e_11, e_00, or_true, true_or, or_false, false_or, and_self, false_and, and_false, Bool.false_eq_true, if_true, if_false, decide_eq_true_eq, le_i, lt_i, pk_mul, nI_add, n_i (show N * b < 2147483648 by omega), n_i (show N * g + N * b < 2147483648 by omega), n_i (show s < 2147483648 by omega), pk_sub_toInt (show s < 2 ^ 30 by omega) (show N * g < 2 ^ 30 by omega)]
    by_cases c : (s : Int) - (N * g : Nat) ≤ (N * b : Nat)
    · have c2 : ¬ ((N * g + N * b : Nat) : Int) < s := by omega
      simp only [c, c2, a_push_s, a_push_n, true_and, and_true, true_implies, false_implies, implies_true, not_true_eq_false, not_false_eq_true, e_10, e_01, e_11, e_00, or_true, true_or, or_false, false_or, and_self, false_and, and_false, Bool.false_eq_true, if_true, if_false]
    · have c2 : ((N * g + N * b : Nat) : Int) < s := by omega
      simp only [c, c2, a_push_s, a_push_n, true_and, and_true, true_implies, false_implies, implies_true, not_true_eq_false, not_false_eq_true, e_10, e_01, e_11, e_00, or_true, true_or, or_false, false_or, and_self, false_and, and_false, Bool.false_eq_true, if_true, if_false]
  · subst e
    have z0 : (nI 1 = 0) = False := eq_false (by decide)
    have z1 : (nI 1 = 1) = True := eq_true (by decide)
    have z2 : (nI 1 = 2) = False := eq_false (by decide)
    simp only [z0, z1, z2, a_push_s, a_push_n, true_and, and_true, true_implies, false_implies, implies_true, not_true_eq_false, not_false_eq_true, e_10, e_01, e_11, e_00, or_true, true_or, or_false, false_or, and_self, false_and, and_false, Bool.false_eq_true, if_true, if_false, decide_eq_true_eq, le_i, lt_i, ti_0]
    grind
  · subst e
    have z0 : (nI 2 = 0) = False := eq_false (by decide)
    have z1 : (nI 2 = 1) = False := eq_false (by decide)
    have z2 : (nI 2 = 2) = True := eq_true (by decide)
    simp only [z0, z1, z2, a_push_s, a_push_n, true_and, and_true, true_implies, false_implies, implies_true, not_true_eq_false, not_false_eq_true, e_10, e_01, e_11, e_00, or_true, true_or, or_false, false_or, and_self, false_and, and_false, Bool.false_eq_true, if_true, if_false, decide_eq_true_eq, le_i, lt_i]
    grind
theorem moF_rng {p : Nat → Int32} {w h d u : Nat} (hp : pOk p w h) (hd : d < w * h) (hu : u < w * h) : ∃ g, g ≤ 9 ∧ moF p d u = nI g := by
  obtain ⟨x, hx, ex⟩ := hp.2.1 d hd
  obtain ⟨y, hy, ey⟩ := hp.2.2.1 u hu
  obtain ⟨z, hz, ez⟩ := hp.2.2.2.2.2.2.1 y hy
  unfold moF
  rw [ex, ey, tc_n (by omega), ez, nI_add]
  by_cases c : x + z ≤ 9
  · exact ⟨x + z, c, by rw [if_pos]; rw [le_i, n_i (by omega), ti_9]; omega⟩
  · exact ⟨9, Nat.le_refl 9, by rw [if_neg]; · rfl
                                rw [le_i, n_i (by omega), ti_9]; omega⟩
theorem alF_rng {p : Nat → Int32} {w h d : Nat} (hp : pOk p w h) (hd : d < w * h) : ∃ g, g ≤ 9 ∧ alF p w h d = nI g := by
  have hn := pOk_n hp
  unfold alF
  rcases unF_rng hp.1.2.2.1 hp.1.2.2.2 (d := d) (p 65) (p 66) with e | ⟨u, hu, e⟩
  · rw [if_pos e]; exact hp.2.1 d hd
  · by_cases c : unF w h d (p 65) (p 66) = -9
    · rw [if_pos c]; exact hp.2.1 d hd
    · rw [if_neg c, e, tc_n (by omega)]; exact moF_rng hp hd hu
theorem c_markOf5 {S : aS} {w h d k b : Nat} {p : Nat → Int32} (hp : pOk p w h) (hd : d < w * h) (he : eyeAt S p w h k d) (h5 : S 19 5 = p 52) (hb : b ≤ 9) (G : aG) (Q : aQ) : aX mX1_markOf 0 [.ref 19, .int (nI d), .int (nI b)] [] S G Q ↔ Q (some (.int (mkF p w h d k (nI b)))) S G := by
  have hn := pOk_n hp
  obtain ⟨h20, h21, h22, h23, h24⟩ := he
  obtain ⟨N, s, q, b1, b2, b3, b4⟩ := wF_bound (w := w) (d := d) (k := k) hp.2.1
  obtain ⟨ru, hru, eru⟩ := hp.2.2.2.1
  obtain ⟨g, hg, eg⟩ := hp.2.1 d hd
  obtain ⟨g2, hg2, eg2⟩ := alF_rng hp hd
  have hc : 0 ≤ (nI d).toInt ∧ (nI d).toInt < 25 := by rw [n_i (by omega)]; omega
  have k1 := c_isDark5 (S := S) (d := d) (ru := ru) (N := N) (s := s) (g := g) (b := b) (by omega) (by rw [h5, eru]) hru (by rw [h20, b4]) (by omega) (by rw [h21, b4]) (by omega) hg hb G
  have k2 := c_isDark5 (S := S) (d := d) (ru := ru) (N := N) (s := s) (g := g2) (b := b) (by omega) (by rw [h5, eru]) hru (by rw [h20, b4]) (by omega) (by rw [h21, b4]) (by omega) hg2 hb G
  simp only [x_X1_markOf_0, x_X1_markOf_4, x_X1_markOf_7, x_X1_markOf_19, x_X1_markOf_22, x_X1_markOf_24, x_X1_markOf_36, x_X1_markOf_39, x_X1_markOf_43, x_X1_markOf_44, c_isPlaceN (show d < 25 by omega), a_cls_19, a_rf_19_3, a_rf_19_4, a_len_23, a_len_24, a_get_23, a_get_24, ain (show d < 25 by omega) (by omega), tc_n (show d < 2147483648 by omega), h23, h24, eg, eg2, k1, k2, bq, a_push_s, a_push_n, true_and, and_true, true_implies, false_implies, implies_true, not_true_eq_false, not_false_eq_true, e_10, e_01, e_11, e_00, or_true, true_or, or_false, false_or, and_self, false_and, and_false, Bool.false_eq_true, if_true, if_false, h5, h20, h21, h22, mkF]
  by_cases c1 : dkF (p 52) (wF p w (w * h) d k).1 (wF p w (w * h) d k).2.1 (wF p w (w * h) d k).2.2 (nI g) (nI b) = true
  · simp only [c1, a_push_s, a_push_n, true_and, and_true, true_implies, false_implies, implies_true, not_true_eq_false, not_false_eq_true, e_10, e_01, e_11, e_00, or_true, true_or, or_false, false_or, and_self, false_and, and_false, Bool.false_eq_true, if_true, if_false]
    unfold alF at eg2
    by_cases c2 : unF w h d (p 65) (p 66) = -9
    · rw [if_pos c2, eg] at eg2
      rw [← eg2]
      simp only [c1, c2, a_push_s, a_push_n, true_and, and_true, true_implies, false_implies, implies_true, not_true_eq_false, not_false_eq_true, e_10, e_01, e_11, e_00, or_true, true_or, or_false, false_or, and_self, false_and, and_false, Bool.false_eq_true, if_true, if_false]
    · rw [if_neg c2] at eg2
      simp only [c2, eg2, a_push_s, a_push_n, true_and, and_true, true_implies, false_implies, implies_true, not_true_eq_false, not_false_eq_true, e_10, e_01, e_11, e_00, or_true, true_or, or_false, false_or, and_self, false_and, and_false, Bool.false_eq_true, if_true, if_false]
      by_cases c3 : dkF (p 52) (wF p w (w * h) d k).1 (wF p w (w * h) d k).2.1 (wF p w (w * h) d k).2.2 (nI g2) (nI b) = true
      · simp only [c3, a_push_s, a_push_n, true_and, and_true, true_implies, false_implies, implies_true, not_true_eq_false, not_false_eq_true, e_10, e_01, e_11, e_00, or_true, true_or, or_false, false_or, and_self, false_and, and_false, Bool.false_eq_true, if_true, if_false]
      · simp only [c3, a_push_s, a_push_n, true_and, and_true, true_implies, false_implies, implies_true, not_true_eq_false, not_false_eq_true, e_10, e_01, e_11, e_00, or_true, true_or, or_false, false_or, and_self, false_and, and_false, Bool.false_eq_true, if_true, if_false]
  · simp only [c1, a_push_s, a_push_n, true_and, and_true, true_implies, false_implies, implies_true, not_true_eq_false, not_false_eq_true, e_10, e_01, e_11, e_00, or_true, true_or, or_false, false_or, and_self, false_and, and_false, Bool.false_eq_true, if_true, if_false]
def eyR (S S' : aS) : Prop := ∀ c, ¬ (19 ≤ c ∧ c ≤ 24) → S' c = S c
theorem sh_eyR {S S' : aS} {a w h : Nat} {p : Nat → Int32} (hs : sh S a p w h) (he : eyR S S') : sh S' a p w h := by
  obtain ⟨ha, h1, h2, h3, h4, h5, h6, h7⟩ := hs
  have lt : a < 19 ∧ a + 3 < 19 := by rcases ha with rfl | rfl | rfl | rfl <;> omega
  have e0 := he a (by omega)
  have e1 := he (a + 1) (by omega)
  have e2 := he (a + 2) (by omega)
  have e3 := he (a + 3) (by omega)
  refine ⟨ha, ?_, ?_, ?_, ?_, ?_, ?_, ?_⟩
  · rw [e0]; exact h1
  · rw [e0]; exact h2
  · rw [e1]; exact h3
  · rw [e2]; exact h4
  · rw [e0]; exact h5
  · rw [e3]; exact h6
  · rw [e0]; exact h7
theorem c_look {S : aS} {a w h k : Nat} {p : Nat → Int32} (hs : sh S a p w h) (hp : pOk p w h) (hk : k ≤ 2) (G : aG) : ∃ S', eyR S S' ∧ (∀ d, d < w * h → eyeAt S' p w h k d) ∧ S' 19 5 = p 52 ∧ S' 19 6 = nI (w * h) ∧ ∀ Q, (aX mX1_look 0 [.ref 19, .ref a, .int (nI k), .null] [] S G Q ↔ Q none S' G) := by
  have hn := pOk_n hp
  have ha := hs.1
  obtain ⟨S0, e0⟩ : ∃ T, T = a_pf S 19 6 (nI (w * h)) := ⟨_, rfl⟩
  have r0 : eyR S S0 := fun c hc => by rw [e0]; exact a_pf_row _ _ _ (by omega)
  have s0 := sh_eyR hs r0
  obtain ⟨S', hS', hX⟩ := lpx (P := fun i T Q => aX mX1_look 10 [.ref 19, .ref a, .int (nI k), .int (nI i)] [] T G Q) (I := fun i T => eyR S T ∧ (∀ d, d < i → eyeAt T p w h k d) ∧ (0 < i → T 19 5 = p 52) ∧ T 19 6 = nI (w * h)) (Nat.zero_le (w * h)) (fun i T _ hi hT => by
    obtain ⟨t1, t2, t3, t4⟩ := hT
    obtain ⟨T', u1, u2, u3, u4⟩ := c_lookAt (sh_eyR hs t1) hp hi hk G
    refine ⟨T', ⟨fun c hc => (u1.1 c hc).trans (t1 c hc), fun d hd => ?_, fun _ => u3, u1.2.2.trans t4⟩, fun Q => ?_⟩
    · rcases Nat.lt_or_ge d i with q | q
      · obtain ⟨v1, v2, v3, v4, v5⟩ := t2 d q
        have ne : d ≠ i := by omega
        exact ⟨(u1.2.1 20 d (by omega) (by omega) ne).trans v1, (u1.2.1 21 d (by omega) (by omega) ne).trans v2, (u1.2.1 22 d (by omega) (by omega) ne).trans v3, (u1.2.1 23 d (by omega) (by omega) ne).trans v4, (u1.2.1 24 d (by omega) (by omega) ne).trans v5⟩
      · rw [show d = i by omega]; exact u2
    · refine (x_X1_look_10 _ _ _ _ _ _ _).trans ?_
      simp only [a_cls_19, t4, nle rfl hi (show w * h < 2147483648 by omega), x_X1_look_18, u4, x_X1_look_25, nI_1, a_push_s, a_push_n, true_and, and_true, true_implies, false_implies, implies_true, not_true_eq_false, not_false_eq_true, e_10, e_01, e_11, e_00, or_true, true_or, or_false, false_or, and_self, false_and, and_false, Bool.false_eq_true, if_true, if_false]) S0 ⟨r0, fun d hd => absurd hd (by omega), fun h => absurd h (by omega), by rw [e0]; exact a_pf_same _ _ _ _⟩
  obtain ⟨t1, t2, t3, t4⟩ := hS'
  refine ⟨S', t1, t2, t3 (by omega), t4, fun Q => ?_⟩
  have z : nI 0 = 0 := rfl
  simp only [x_X1_look_0, sha_cls ha, c_dots (sh_W hs hp), x_X1_look_5, a_cls_19, ← e0, x_X1_look_8, a_push_s, a_push_n, true_and, and_true, true_implies, false_implies, implies_true, not_true_eq_false, not_false_eq_true, e_10, e_01, e_11, e_00, or_true, true_or, or_false, false_or, and_self, false_and, and_false, Bool.false_eq_true, if_true, if_false]
  refine (hX Q).trans ?_
  simp only [x_X1_look_10, a_cls_19, t4, yle rfl (Nat.le_refl (w * h)) (show w * h < 2147483648 by omega), x_X1_look_31, a_push_s, a_push_n, true_and, and_true, true_implies, false_implies, implies_true, not_true_eq_false, not_false_eq_true, e_10, e_01, e_11, e_00, or_true, true_or, or_false, false_or, and_self, false_and, and_false, Bool.false_eq_true, if_true, if_false]
def dmF (p : Nat → Int32) (w h k : Nat) (c m : Int32) (n : Nat) : Int32 := it (fun d s => s ||| (if mkF p w h d k c = m then (1 : Int32) <<< (nI d &&& 31) else 0)) 0 n
theorem c_dotsMarked {S : aS} {w h k b : Nat} {p : Nat → Int32} (hp : pOk p w h) (he : ∀ d, d < w * h → eyeAt S p w h k d) (h5 : S 19 5 = p 52) (h6 : S 19 6 = nI (w * h)) (hb : b ≤ 9) (m : Int32) (G : aG) (Q : aQ) : aX mX1_dotsMarked 0 [.ref 19, .int (nI b), .int m, .null, .null] [] S G Q ↔ Q (some (.int (dmF p w h k (nI b) m (w * h)))) S G := by
  have hn := pOk_n hp
  rw [x_X1_dotsMarked_0]
  refine (lp (n := w * h) (P := fun i => aX mX1_dotsMarked 5 [.ref 19, .int (nI b), .int m, .int (dmF p w h k (nI b) m i), .int (nI i)] [] S G Q) (fun i hi => ?_)).trans ?_
  · refine (x_X1_dotsMarked_5 _ _ _ _ _ S G Q).trans ?_
    have es : dmF p w h k (nI b) m (i + 1) = dmF p w h k (nI b) m i ||| (if mkF p w h i k (nI b) = m then (1 : Int32) <<< (nI i &&& 31) else 0) := rfl
    simp only [a_cls_19, h6, nle rfl hi (show w * h < 2147483648 by omega), x_X1_dotsMarked_14, c_markOf5 hp hi (he i hi) h5 hb, x_X1_dotsMarked_21, x_X1_dotsMarked_25, x_X1_dotsMarked_32, nI_1, es, a_push_s, a_push_n, true_and, and_true, true_implies, false_implies, implies_true, not_true_eq_false, not_false_eq_true, e_10, e_01, e_11, e_00, or_true, true_or, or_false, false_or, and_self, false_and, and_false, Bool.false_eq_true, if_true, if_false]
    by_cases c : mkF p w h i k (nI b) = m
    · simp only [c, a_push_s, a_push_n, true_and, and_true, true_implies, false_implies, implies_true, not_true_eq_false, not_false_eq_true, e_10, e_01, e_11, e_00, or_true, true_or, or_false, false_or, and_self, false_and, and_false, Bool.false_eq_true, if_true, if_false]
    · simp only [c, Int32.or_zero, a_push_s, a_push_n, true_and, and_true, true_implies, false_implies, implies_true, not_true_eq_false, not_false_eq_true, e_10, e_01, e_11, e_00, or_true, true_or, or_false, false_or, and_self, false_and, and_false, Bool.false_eq_true, if_true, if_false]
  · simp only [x_X1_dotsMarked_5, a_cls_19, h6, yle rfl (Nat.le_refl (w * h)) (show w * h < 2147483648 by omega), x_X1_dotsMarked_38, a_push_s, a_push_n, true_and, and_true, true_implies, false_implies, implies_true, not_true_eq_false, not_false_eq_true, e_10, e_01, e_11, e_00, or_true, true_or, or_false, false_or, and_self, false_and, and_false, Bool.false_eq_true, if_true, if_false]
