/-! THE TEXT -/
def tx (S : aS) (T : Nat → Nat) (n : Nat) : Prop := n ≤ 56 ∧ S 1 1 = nI n ∧ S 34 2 = nI n ∧ ∀ j, j < n → T j ≤ 255 ∧ S 2 j = nI (T j) ∧ S 35 j = nI (T j)
def letN (T : Nat → Nat) (n j : Nat) : Nat := if j < n then T j else 0
def figN (T : Nat → Nat) (n j : Nat) : Nat := min (letN T n j - 48) 9
def dotN (T : Nat → Nat) (n : Nat) : Nat := figN T n 1 * figN T n 2
def fitsP (T : Nat → Nat) (n j : Nat) : Prop := if j = 0 then letN T n j = 76 else if j ≤ 2 then 49 ≤ letN T n j ∧ letN T n j ≤ 53 else if j = 3 + dotN T n then letN T n j = 66 else j < 4 + 2 * dotN T n ∧ 48 ≤ letN T n j ∧ letN T n j ≤ 57
def okJ (T : Nat → Nat) (n j : Nat) : Prop := j < n ∧ fitsP T n j
def isFlt (T : Nat → Nat) (n : Nat) (r : Int32) : Prop := (∃ m, m < 4 + 2 * dotN T n ∧ (∀ j, j < m → okJ T n j) ∧ ¬ okJ T n m ∧ r = nI m) ∨ ((∀ j, j < 4 + 2 * dotN T n → okJ T n j) ∧ r = if n = 4 + 2 * dotN T n then -9 else nI (4 + 2 * dotN T n))
theorem isFlt_one {T : Nat → Nat} {n : Nat} {r r2 : Int32} (h : isFlt T n r) (h2 : isFlt T n r2) : r = r2 := by
  rcases h with ⟨m, h1, h3, h4, h5⟩ | ⟨h1, h5⟩
  · rcases h2 with ⟨m2, g1, g3, g4, g5⟩ | ⟨g1, g5⟩
    · have : m = m2 := by
        rcases Nat.lt_trichotomy m m2 with q | q | q
        · exact absurd (g3 m q) h4
        · exact q
        · exact absurd (h3 m2 q) g4
      rw [h5, g5, this]
    · exact absurd (g1 m h1) h4
  · rcases h2 with ⟨m2, g1, g3, g4, g5⟩ | ⟨g1, g5⟩
    · exact absurd (h1 m2 g1) g4
    · rw [h5, g5]
theorem figN_le (T : Nat → Nat) (n j : Nat) : figN T n j ≤ 9 := Nat.min_le_right _ _
theorem dotN_le (T : Nat → Nat) (n : Nat) : dotN T n ≤ 81 := Nat.mul_le_mul (figN_le T n 1) (figN_le T n 2)
theorem letN_le {S : aS} {T : Nat → Nat} {n : Nat} (ht : tx S T n) (j : Nat) : letN T n j ≤ 255 := by
  unfold letN
  split
  · rename_i h; exact (ht.2.2.2 j h).1
  · omega
theorem least {P : Nat → Prop} : ∀ n, (∀ j, j < n → P j) ∨ ∃ m, m < n ∧ ¬ P m ∧ ∀ j, j < m → P j
  | 0 => Or.inl fun j hj => absurd hj (by omega)
  | n + 1 => by
    rcases least (P := P) n with h | ⟨m, h1, h2, h3⟩
    · rcases Classical.em (P n) with q | q
      · exact Or.inl fun j hj => by
          rcases Nat.lt_or_ge j n with z | z
          · exact h j z
          · rw [show j = n by omega]; exact q
      · exact Or.inr ⟨n, by omega, q, h⟩
    · exact Or.inr ⟨m, by omega, h2, h3⟩
theorem clamp48 : ∀ l, l < 256 → (if (0 : Int32) < (if (9 : Int32) < (nI l - 48) then 9 else (nI l - 48)) then (if (9 : Int32) < (nI l - 48) then 9 else (nI l - 48)) else 0) = nI (min (l - 48) 9) := by decide +kernel
theorem c_isFull {S : aS} {T : Nat → Nat} {n : Nat} (ht : tx S T n) (G : aG) (Q : aQ) : aX mX4_isFull 0 [.ref 1] [] S G Q ↔ bq (n = 56) Q S G := by
  obtain ⟨hn, h1, -, -⟩ := ht
  have e56 : Int32.ofNat 56 = nI 56 := rfl
  have z : (0 < 56) = True := by decide
  simp only [x_X4_isFull_0, x_X4_isFull_12, x_X4_isFull_16, x_X4_isFull_17, a_cls_1, a_rf_1_0, a_len_2, h1, e56, z, a_push_s, a_push_n, true_and, and_true, true_implies, false_implies, implies_true, not_true_eq_false, not_false_eq_true, e_10, e_01, e_11, e_00, or_true, true_or, or_false, false_or, and_self, false_and, and_false, Bool.false_eq_true, if_true, if_false, bq]
  by_cases h : n = 56
  · subst h; simp only [nlt2 (Nat.le_refl 56) (by omega), a_push_s, a_push_n, true_and, and_true, true_implies, false_implies, implies_true, not_true_eq_false, not_false_eq_true, e_10, e_01, e_11, e_00, or_true, true_or, or_false, false_or, and_self, false_and, and_false, Bool.false_eq_true, if_true, if_false]
  · simp only [ylt2 (show n < 56 by omega) (by omega), h, a_push_s, a_push_n, true_and, and_true, true_implies, false_implies, implies_true, not_true_eq_false, not_false_eq_true, e_10, e_01, e_11, e_00, or_true, true_or, or_false, false_or, and_self, false_and, and_false, Bool.false_eq_true, if_true, if_false]
theorem c_append {S : aS} {T : Nat → Nat} {n : Nat} (ht : tx S T n) (hn : n < 56) (v : Int32) (G : aG) (Q : aQ) : aX mX4_append 0 [.ref 1, .int v] [] S G Q ↔ Q (some (.int (nI (n + 1)))) (a_pf (a_pf S 2 n v) 1 1 (nI (n + 1))) G := by
  have h1 := ht.2.1
  have e : a_pf S 2 n v 1 1 = nI n := by rw [a_pf_row _ _ _ (by decide)]; exact h1
  simp only [x_X4_append_0, x_X4_append_4, x_X4_append_7, x_X4_append_17, x_X4_append_27, a_cls_1, a_rf_1_0, a_len_2, c_isFull ht, bq_f (show ¬ n = 56 by omega), h1, ain (show n < 56 by omega) (by omega), tc_n (show n < 2147483648 by omega), e, nI_1, a_pf_same, show (2 < 45) = True from eq_true (by decide), a_push_s, a_push_n, true_and, and_true, true_implies, false_implies, implies_true, not_true_eq_false, not_false_eq_true, e_10, e_01, e_11, e_00, or_true, true_or, or_false, false_or, and_self, false_and, and_false, Bool.false_eq_true, if_true, if_false]
theorem c_clear4 (S : aS) (G : aG) (Q : aQ) : aX mX4_clear 0 [.ref 1, .null] [] S G Q ↔ Q (some (.int (S 1 1))) (a_pf S 1 1 0) G := by
  simp only [x_X4_clear_0, x_X4_clear_10, a_cls_1, a_push_s, a_push_n, true_and, and_true, true_implies, false_implies, implies_true, not_true_eq_false, not_false_eq_true, e_10, e_01, e_11, e_00, or_true, true_or, or_false, false_or, and_self, false_and, and_false, Bool.false_eq_true, if_true, if_false]
theorem c_letterAt {S : aS} {T : Nat → Nat} {n j : Nat} (ht : tx S T n) (hj : j < 1000) (G : aG) (Q : aQ) : aX mX4_letterAt 0 [.ref 1, .int (nI j)] [] S G Q ↔ Q (some (.int (nI (letN T n j)))) S G := by
  obtain ⟨hn, h1, -, h2⟩ := ht
  have c0 : (nI j < 0) = False := eq_false (nI_pos (by omega))
  simp only [x_X4_letterAt_0, x_X4_letterAt_4, x_X4_letterAt_12, x_X4_letterAt_21, x_X4_letterAt_22, c0, a_cls_1, a_rf_1_0, a_len_2, a_get_2, h1, a_push_s, a_push_n, true_and, and_true, true_implies, false_implies, implies_true, not_true_eq_false, not_false_eq_true, e_10, e_01, e_11, e_00, or_true, true_or, or_false, false_or, and_self, false_and, and_false, Bool.false_eq_true, if_true, if_false]
  unfold letN
  by_cases h : j < n
  · simp only [nle rfl h (show n < 2147483648 by omega), ain (show j < 56 by omega) (by omega), tc_n (show j < 2147483648 by omega), (h2 j h).2.1, if_pos h, a_push_s, a_push_n, true_and, and_true, true_implies, false_implies, implies_true, not_true_eq_false, not_false_eq_true, e_10, e_01, e_11, e_00, or_true, true_or, or_false, false_or, and_self, false_and, and_false, Bool.false_eq_true, if_true, if_false]
  · simp only [yle rfl (show n ≤ j by omega) (show j < 2147483648 by omega), if_neg h, nI_0, a_push_s, a_push_n, true_and, and_true, true_implies, false_implies, implies_true, not_true_eq_false, not_false_eq_true, e_10, e_01, e_11, e_00, or_true, true_or, or_false, false_or, and_self, false_and, and_false, Bool.false_eq_true, if_true, if_false]
theorem c_figureAt5 {S : aS} {T : Nat → Nat} {n j : Nat} (ht : tx S T n) (hj : j < 1000) (G : aG) (Q : aQ) : aX mX4_figureAt 0 [.ref 1, .int (nI j)] [] S G Q ↔ Q (some (.int (nI (figN T n j)))) S G := by
  have := letN_le ht j
  simp only [x_X4_figureAt_0, x_X4_figureAt_6, x_X4_figureAt_14, x_X4_figureAt_17, a_cls_1, c_letterAt ht hj, clamp48 _ (show letN T n j < 256 by omega), figN, a_push_s, a_push_n, true_and, and_true, true_implies, false_implies, implies_true, not_true_eq_false, not_false_eq_true, e_10, e_01, e_11, e_00, or_true, true_or, or_false, false_or, and_self, false_and, and_false, Bool.false_eq_true, if_true, if_false]
theorem c_dotsTold {S : aS} {T : Nat → Nat} {n : Nat} (ht : tx S T n) (G : aG) (Q : aQ) : aX mX4_dotsTold 0 [.ref 1] [] S G Q ↔ Q (some (.int (nI (dotN T n)))) S G := by
  have f1 : ∀ Q, aX mX4_figureAt 0 [.ref 1, .int 1] [] S G Q ↔ Q (some (.int (nI (figN T n 1)))) S G := fun Q => c_figureAt5 (j := 1) ht (by omega) G Q
  have f2 : ∀ Q, aX mX4_figureAt 0 [.ref 1, .int 2] [] S G Q ↔ Q (some (.int (nI (figN T n 2)))) S G := fun Q => c_figureAt5 (j := 2) ht (by omega) G Q
  simp only [x_X4_dotsTold_0, x_X4_dotsTold_5, x_X4_dotsTold_10, a_cls_1, f1, f2, pk_mul, dotN, a_push_s, a_push_n, true_and, and_true, true_implies, false_implies, implies_true, not_true_eq_false, not_false_eq_true, e_10, e_01, e_11, e_00, or_true, true_or, or_false, false_or, and_self, false_and, and_false, Bool.false_eq_true, if_true, if_false]
theorem c_fits {S : aS} {T : Nat → Nat} {n j : Nat} (ht : tx S T n) (hj : j < 1000) (G : aG) (Q : aQ) : aX mX4_fits 0 [.ref 1, .int (nI j), .null, .null] [] S G Q ↔ bq (fitsP T n j) Q S G := by
  have hl := letN_le ht j
  have hd := dotN_le T n
  have e1 : ∀ c : Nat, c < 1000 → (nI (letN T n j) = nI c) = (letN T n j = c) := fun c hc => propext (nI_eq (by omega) (by omega))
  have e2 : ∀ c : Nat, c < 1000 → (nI (letN T n j) < nI c) = (letN T n j < c) := fun c hc => by rw [lt_i, n_i (by omega), n_i (by omega)]; simp <;> omega
  have e3 : ∀ c : Nat, c < 1000 → (nI c < nI (letN T n j)) = (c < letN T n j) := fun c hc => by rw [lt_i, n_i (by omega), n_i (by omega)]; simp <;> omega
  have q76 : (nI (letN T n j) = 76) = (letN T n j = 76) := e1 76 (by omega)
  have q66 : (nI (letN T n j) = 66) = (letN T n j = 66) := e1 66 (by omega)
  have q49 : (nI (letN T n j) < 49) = (letN T n j < 49) := e2 49 (by omega)
  have q48 : (nI (letN T n j) < 48) = (letN T n j < 48) := e2 48 (by omega)
  have q53 : (53 < nI (letN T n j)) = (53 < letN T n j) := e3 53 (by omega)
  have q57 : (57 < nI (letN T n j)) = (57 < letN T n j) := e3 57 (by omega)
  have j0 : (nI j = 0) = (j = 0) := propext (nI_eq (b := 0) (by omega) (by omega))
  have j2 : (2 < nI j) = (2 < j) := by rw [show (2 : Int32) = nI 2 from rfl, lt_i, n_i (by omega), n_i (by omega)]; simp <;> omega
  have jd : (nI j = 3 + nI (dotN T n)) = (j = 3 + dotN T n) := by rw [add_3]; exact propext (nI_eq (by omega) (by omega))
  have je : (4 + 2 * nI (dotN T n) ≤ nI j) = (4 + 2 * dotN T n ≤ j) := by rw [show (4 : Int32) = nI 4 from rfl, show (2 : Int32) = nI 2 from rfl, pk_mul, nI_add, le_i, n_i (by omega), n_i (by omega)]; simp <;> omega
  simp only [x_X4_fits_0, x_X4_fits_5, x_X4_fits_10, x_X4_fits_16, x_X4_fits_20, x_X4_fits_21, x_X4_fits_22, x_X4_fits_27, x_X4_fits_33, x_X4_fits_39, x_X4_fits_43, x_X4_fits_44, x_X4_fits_45, x_X4_fits_49, x_X4_fits_57, x_X4_fits_63, x_X4_fits_67, x_X4_fits_68, x_X4_fits_69, x_X4_fits_78, x_X4_fits_84, x_X4_fits_90, x_X4_fits_94, x_X4_fits_95, a_cls_1, c_letterAt ht hj, c_dotsTold ht, q76, q66, q49, q48, q53, q57, j0, j2, jd, je, a_push_s, a_push_n, true_and, and_true, true_implies, false_implies, implies_true, not_true_eq_false, not_false_eq_true, e_10, e_01, e_11, e_00, or_true, true_or, or_false, false_or, and_self, false_and, and_false, Bool.false_eq_true, if_true, if_false, bq]
  unfold fitsP
  by_cases h0 : j = 0
  · simp only [h0, if_true, not_true_eq_false, false_implies, true_implies, true_and, and_true]
    by_cases c : letN T n j = 76
    · simp [h0] at c; simp [c]
    · simp [h0] at c; simp [c]
  · simp only [h0, if_false, not_false_eq_true, false_implies, true_implies, true_and, and_true]
    by_cases h2 : j ≤ 2
    · have : ¬ 2 < j := by omega
      simp only [h2, this, if_true, not_false_eq_true, false_implies, true_implies, true_and, and_true]
      grind
    · have : 2 < j := by omega
      simp only [h2, this, if_false, not_true_eq_false, false_implies, true_implies, true_and, and_true]
      by_cases h3 : j = 3 + dotN T n
      · simp only [if_pos h3, h3, not_true_eq_false, false_implies, true_implies, true_and, and_true]
        rw [← h3]
        by_cases c : letN T n j = 66
        · simp [c]
        · simp [c]
      · simp only [if_neg h3, h3, not_false_eq_true, false_implies, true_implies, true_and, and_true]
        grind
theorem no_end {T : Nat → Nat} {n : Nat} : ¬ fitsP T n (4 + 2 * dotN T n) := by
  unfold fitsP
  rw [if_neg (by omega), if_neg (by omega), if_neg (by omega)]
  omega
theorem c_firstFault {S : aS} {T : Nat → Nat} {n : Nat} (ht : tx S T n) (G : aG) : ∃ r, isFlt T n r ∧ ∀ Q, (aX mX4_firstFault 0 [.ref 1, .null] [] S G Q ↔ Q (some (.int r)) S G) := by
  have hn := ht.1
  have h1 := ht.2.1
  have hd := dotN_le T n
  have step : ∀ m, m ≤ n → (∀ j, j < m → fitsP T n j) → ∀ Q, (aX mX4_firstFault 0 [.ref 1, .null] [] S G Q ↔ aX mX4_firstFault 2 [.ref 1, .int (nI m)] [] S G Q) := by
    intro m hm hf Q
    rw [x_X4_firstFault_0]
    exact lp (n := m) (P := fun i => aX mX4_firstFault 2 [.ref 1, .int (nI i)] [] S G Q) (fun i hi => by
      refine (x_X4_firstFault_2 _ _ S G Q).trans ?_
      simp only [a_cls_1, h1, nle rfl (show i < n by omega) (show n < 2147483648 by omega), x_X4_firstFault_10, c_fits ht (show i < 1000 by omega), bq_t (hf i hi), x_X4_firstFault_15, x_X4_firstFault_20, nI_1, a_push_s, a_push_n, true_and, and_true, true_implies, false_implies, implies_true, not_true_eq_false, not_false_eq_true, e_10, e_01, e_11, e_00, or_true, true_or, or_false, false_or, and_self, false_and, and_false, Bool.false_eq_true, if_true, if_false])
  rcases least (P := fitsP T n) n with hall | ⟨m, hm, hnf, hf⟩
  · have hle : n ≤ 4 + 2 * dotN T n := by
      rcases Nat.lt_or_ge (4 + 2 * dotN T n) n with q | q
      · exact absurd (hall _ q) no_end
      · exact q
    by_cases he : n = 4 + 2 * dotN T n
    · refine ⟨-9, Or.inr ⟨fun j hj => ⟨by omega, hall j (by omega)⟩, by rw [if_pos he]⟩, fun Q => (step n (Nat.le_refl n) hall Q).trans ?_⟩
      have c2 : (nI n ≤ 2) = False := eq_false (by rw [show (2 : Int32) = nI 2 from rfl, le_i, n_i (by omega), n_i (by omega)]; omega)
      have c3 : (nI n = 4 + 2 * nI (dotN T n)) = True := eq_true (by rw [show (4 : Int32) = nI 4 from rfl, show (2 : Int32) = nI 2 from rfl, pk_mul, nI_add, ← he])
      simp only [x_X4_firstFault_2, a_cls_1, h1, yle rfl (Nat.le_refl n) (show n < 2147483648 by omega), x_X4_firstFault_26, x_X4_firstFault_34, x_X4_firstFault_44, x_X4_firstFault_49, x_X4_firstFault_53, x_X4_firstFault_54, x_X4_firstFault_59, x_X4_firstFault_64, x_X4_firstFault_68, c2, c_dotsTold ht, c3, a_push_s, a_push_n, true_and, and_true, true_implies, false_implies, implies_true, not_true_eq_false, not_false_eq_true, e_10, e_01, e_11, e_00, or_true, true_or, or_false, false_or, and_self, false_and, and_false, Bool.false_eq_true, if_true, if_false]
    · refine ⟨nI n, Or.inl ⟨n, by omega, fun j hj => ⟨hj, hall j hj⟩, fun z => absurd z.1 (by omega), rfl⟩, fun Q => (step n (Nat.le_refl n) hall Q).trans ?_⟩
      have c3 : (nI n = 4 + 2 * nI (dotN T n)) = False := eq_false (by rw [show (4 : Int32) = nI 4 from rfl, show (2 : Int32) = nI 2 from rfl, pk_mul, nI_add, nI_eq (by omega) (by omega)]; exact he)
      simp only [x_X4_firstFault_2, a_cls_1, h1, yle rfl (Nat.le_refl n) (show n < 2147483648 by omega), x_X4_firstFault_26, x_X4_firstFault_34, x_X4_firstFault_44, x_X4_firstFault_49, x_X4_firstFault_53, x_X4_firstFault_54, x_X4_firstFault_59, x_X4_firstFault_64, x_X4_firstFault_68, c_dotsTold ht, c3, a_push_s, a_push_n, true_and, and_true, true_implies, false_implies, implies_true, not_true_eq_false, not_false_eq_true, e_10, e_01, e_11, e_00, or_true, true_or, or_false, false_or, and_self, false_and, and_false, Bool.false_eq_true, if_true, if_false]
      by_cases c2 : nI n ≤ 2
      · simp only [c2, a_push_s, a_push_n, true_and, and_true, true_implies, false_implies, implies_true, not_true_eq_false, not_false_eq_true, e_10, e_01, e_11, e_00, or_true, true_or, or_false, false_or, and_self, false_and, and_false, Bool.false_eq_true, if_true, if_false]
      · simp only [c2, a_push_s, a_push_n, true_and, and_true, true_implies, false_implies, implies_true, not_true_eq_false, not_false_eq_true, e_10, e_01, e_11, e_00, or_true, true_or, or_false, false_or, and_self, false_and, and_false, Bool.false_eq_true, if_true, if_false]
  · have hx : ∀ Q, (aX mX4_firstFault 0 [.ref 1, .null] [] S G Q ↔ Q (some (.int (nI m))) S G) := fun Q => (step m (by omega) hf Q).trans (by
      simp only [x_X4_firstFault_2, a_cls_1, h1, nle rfl hm (show n < 2147483648 by omega), x_X4_firstFault_10, c_fits ht (show m < 1000 by omega), bq_f hnf, x_X4_firstFault_15, x_X4_firstFault_18, a_push_s, a_push_n, true_and, and_true, true_implies, false_implies, implies_true, not_true_eq_false, not_false_eq_true, e_10, e_01, e_11, e_00, or_true, true_or, or_false, false_or, and_self, false_and, and_false, Bool.false_eq_true, if_true, if_false])
    have hle : m ≤ 4 + 2 * dotN T n := by
      rcases Nat.lt_or_ge (4 + 2 * dotN T n) m with q | q
      · exact absurd (hf _ q) no_end
      · exact q
    refine ⟨nI m, ?_, hx⟩
    rcases Nat.lt_or_ge m (4 + 2 * dotN T n) with q | q
    · exact Or.inl ⟨m, q, fun j hj => ⟨by omega, hf j hj⟩, fun z => hnf z.2, rfl⟩
    · refine Or.inr ⟨fun j hj => ⟨by omega, hf j (by omega)⟩, ?_⟩
      rw [if_neg (by omega), show m = 4 + 2 * dotN T n by omega]
