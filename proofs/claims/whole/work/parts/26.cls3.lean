/-! THE CLASS: sheets that change -/
def shR (a : Nat) (S S' : aS) : Prop := ∀ c, c ≠ a → c ≠ a + 1 → c ≠ a + 2 → c ≠ a + 3 → S' c = S c
theorem shR_refl (a : Nat) (S : aS) : shR a S S := fun _ _ _ _ _ => rfl
theorem shR_trans {a : Nat} {S S' S2 : aS} (h : shR a S S') (h2 : shR a S' S2) : shR a S S2 := fun c a b d e => (h2 c a b d e).trans (h c a b d e)
theorem sh_R {S S' : aS} {a b w h : Nat} {p : Nat → Int32} (hs : sh S b p w h) (ha : sha a) (hab : a ≠ b) (hr : shR a S S') : sh S' b p w h := by
  obtain ⟨hb, h1, h2, h3, h4, h5, h6, h7⟩ := hs
  have d : ∀ i, i ≤ 3 → S' (b + i) = S (b + i) := fun i hi => hr _ (by rcases ha with rfl | rfl | rfl | rfl <;> rcases hb with rfl | rfl | rfl | rfl <;> omega) (by rcases ha with rfl | rfl | rfl | rfl <;> rcases hb with rfl | rfl | rfl | rfl <;> omega) (by rcases ha with rfl | rfl | rfl | rfl <;> rcases hb with rfl | rfl | rfl | rfl <;> omega) (by rcases ha with rfl | rfl | rfl | rfl <;> rcases hb with rfl | rfl | rfl | rfl <;> omega)
  have e0 := d 0 (by omega)
  have e1 := d 1 (by omega)
  have e2 := d 2 (by omega)
  have e3 := d 3 (by omega)
  rw [Nat.add_zero] at e0
  refine ⟨hb, ?_, ?_, ?_, ?_, ?_, ?_, ?_⟩
  · rw [e0]; exact h1
  · rw [e0]; exact h2
  · rw [e1]; exact h3
  · rw [e2]; exact h4
  · rw [e0]; exact h5
  · rw [e3]; exact h6
  · rw [e0]; exact h7
/-- a page with another leaf -/
def fpF (p f : Nat → Int32) (n : Nat) : Nat → Int32 := fun j => if 2 ≤ j ∧ j < 2 + n then f (j - 2) else p j
theorem fpF_in {p f : Nat → Int32} {n d : Nat} (h : d < n) : fpF p f n (2 + d) = f d := by
  unfold fpF; rw [if_pos (by omega)]; congr 1; omega
theorem fpF_out {p f : Nat → Int32} {n j : Nat} (h : j < 2 ∨ 2 + n ≤ j) : fpF p f n j = p j := by
  unfold fpF; rw [if_neg (by omega)]
theorem liF_fp (p : Nat → Int32) (b : Int32) (n : Nat) : liF p b n = fpF p (fun d => p (2 + d) + b) n := by
  funext j
  unfold liF fpF
  by_cases h : 2 ≤ j ∧ j < 2 + n
  · rw [if_pos h, if_pos h]; show _ = p (2 + (j - 2)) + b; rw [show 2 + (j - 2) = j by omega]
  · rw [if_neg h, if_neg h]
theorem pOk_fp {p f : Nat → Int32} {w h : Nat} (hp : pOk p w h) (hf : ∀ d, d < w * h → ∃ g, g ≤ 9 ∧ f d = nI g) : pOk (fpF p f (w * h)) w h := by
  have hn := pOk_n hp
  obtain ⟨⟨h0, h1, hw, hh⟩, -, h3, h4, h5, h6, h7, h8, h9⟩ := hp
  refine ⟨⟨by rw [fpF_out (by omega)]; exact h0, by rw [fpF_out (by omega)]; exact h1, hw, hh⟩, fun d hd => by rw [fpF_in hd]; exact hf d hd, fun d hd => by rw [fpF_out (by omega)]; exact h3 d hd, by rw [fpF_out (by omega)]; exact h4, by rw [fpF_out (by omega)]; exact h5, by rw [fpF_out (by omega)]; exact h6, fun g hg => by rw [fpF_out (by omega)]; exact h7 g hg, by rw [fpF_out (by omega)]; exact h8, by rw [fpF_out (by omega)]; exact h9⟩
theorem sh_fp {S : aS} {a w h : Nat} {p : Nat → Int32} (f : Nat → Int32) (hs : sh S a p w h) (hp : pOk p w h) : sh (a_wr S (a + 1) f) a (fpF p f (w * h)) w h := by
  have hn := pOk_n hp
  obtain ⟨ha, h1, h2, h3, h4, h5, h6, h7⟩ := hs
  have e0 : a_wr S (a + 1) f a = S a := a_wr_ne _ _ (by omega)
  have e1 : a_wr S (a + 1) f (a + 1) = f := a_wr_same _ _ _
  have e2 : a_wr S (a + 1) f (a + 2) = S (a + 2) := a_wr_ne _ _ (by omega)
  have e3 : a_wr S (a + 1) f (a + 3) = S (a + 3) := a_wr_ne _ _ (by omega)
  refine ⟨ha, ?_, ?_, ?_, ?_, ?_, ?_, ?_⟩
  · rw [e0, fpF_out (by omega)]; exact h1
  · rw [e0, fpF_out (by omega)]; exact h2
  · intro d hd; rw [e1, fpF_in hd]
  · intro d hd; rw [e2, fpF_out (by omega)]; exact h4 d hd
  · rw [e0, fpF_out (by omega), fpF_out (by omega), fpF_out (by omega)]; exact h5
  · intro g hg; rw [e3, fpF_out (by omega)]; exact h6 g hg
  · rw [e0, fpF_out (by omega), fpF_out (by omega)]; exact h7
theorem shR_fp (S : aS) (a : Nat) (f : Nat → Int32) : shR a S (a_wr S (a + 1) f) := fun c _ h1 _ _ => a_wr_ne _ _ h1
/-- pages alike where they are read -/
theorem sh_ext {S : aS} {a w h : Nat} {p q : Nat → Int32} (hs : sh S a p w h) (hn : w * h ≤ 25) (he : ∀ j, j < 67 → q j = p j) : sh S a q w h := by
  obtain ⟨ha, h1, h2, h3, h4, ⟨h5, h6, h7⟩, h8, h9, h10⟩ := hs
  exact ⟨ha, by rw [he _ (by omega)]; exact h1, by rw [he _ (by omega)]; exact h2, fun d hd => by rw [he _ (by omega)]; exact h3 d hd, fun d hd => by rw [he _ (by omega)]; exact h4 d hd, ⟨by rw [he _ (by omega)]; exact h5, by rw [he _ (by omega)]; exact h6, by rw [he _ (by omega)]; exact h7⟩, fun g hg => by rw [he _ (by omega)]; exact h8 g hg, by rw [he _ (by omega)]; exact h9, by rw [he _ (by omega)]; exact h10⟩
theorem pOk_ext {w h : Nat} {p q : Nat → Int32} (hp : pOk p w h) (he : ∀ j, j < 67 → q j = p j) : pOk q w h := by
  have hn := pOk_n hp
  obtain ⟨⟨h0, h1, hw, hh⟩, h2, h3, h4, h5, h6, h7, h8, h9⟩ := hp
  exact ⟨⟨by rw [he _ (by omega)]; exact h0, by rw [he _ (by omega)]; exact h1, hw, hh⟩, fun d hd => by rw [he _ (by omega)]; exact h2 d hd, fun d hd => by rw [he _ (by omega)]; exact h3 d hd, by rw [he _ (by omega)]; exact h4, by rw [he _ (by omega)]; exact h5, by rw [he _ (by omega)]; exact h6, fun g hg => by rw [he _ (by omega)]; exact h7 g hg, by rw [he _ (by omega)]; exact h8, by rw [he _ (by omega)]; exact h9⟩
theorem agr_ext {p q : Nat → Int32} {n : Nat} (hn : n ≤ 25) (he : ∀ j, j < 67 → p j = q j) : agr p q n := ⟨fun d hd => he _ (by omega), fun d hd => he _ (by omega), he _ (by omega), fun g hg => he _ (by omega), he _ (by omega), he _ (by omega)⟩
theorem hmF_ext {p q : Nat → Int32} {w h : Nat} (hp : pOk p w h) (he : ∀ j, j < 67 → p j = q j) (k : Nat) (c m : Int32) : hmF p w h k c m = hmF q w h k c m := by
  have hn := pOk_n hp
  exact cntP_congr fun d hd => by rw [mkF_congr hp.1.2.2.1 hp.1.2.2.2 (agr_ext hn.2 he) hp.2.2.1 hd]
theorem c_lighten {S : aS} {a w h : Nat} (hs : shW S a w h) (b : Int32) (G : aG) (Q : aQ) : aX mX3_lighten 0 [.ref a, .int b, .null] [] S G Q ↔ Q none (a_wr S (a + 1) (fun j => if j < w * h then S (a + 1) j + b else S (a + 1) j)) G := by
  have hn := shW_n hs
  have ha := hs.1
  have key : ∀ f, shW (a_wr S (a + 1) f) a w h := fun f => ⟨ha, by rw [a_wr_ne _ _ (by omega)]; exact hs.2.1, by rw [a_wr_ne _ _ (by omega)]; exact hs.2.2.1, hs.2.2.2⟩
  have step : ∀ i, a_pf (a_wr S (a + 1) (fun j => if j < i then S (a + 1) j + b else S (a + 1) j)) (a + 1) i (S (a + 1) i + b) = a_wr S (a + 1) (fun j => if j < i + 1 then S (a + 1) j + b else S (a + 1) j) := by
    intro i
    unfold a_pf
    rw [a_wr_wr, a_wr_same]
    congr 1
    funext j
    unfold upd
    by_cases hj : j = i
    · subst hj; simp
    · by_cases q : j < i
      · simp [hj, q, show j < i + 1 by omega]
      · simp [hj, q, show ¬ j < i + 1 by omega]
  have hl := lp (n := w * h) (P := fun i => aX mX3_lighten 2 [.ref a, .int b, .int (nI i)] [] (a_wr S (a + 1) (fun j => if j < i then S (a + 1) j + b else S (a + 1) j)) G Q) (fun i hi => by
    have e : (a_wr S (a + 1) (fun j => if j < i then S (a + 1) j + b else S (a + 1) j)) (a + 1) i = S (a + 1) i := by rw [a_wr_same, if_neg (by omega)]
    refine (x_X3_lighten_2 _ _ _ _ G Q).trans ?_
    simp only [sha_cls ha, c_dots (key _), x_X3_lighten_7, nle rfl hi (show w * h < 2147483648 by omega), x_X3_lighten_10, c_greyOf ha (show i < 25 by omega), x_X3_lighten_19, c_setGrey (key _) hi, x_X3_lighten_24, nI_1, e, step, a_push_s, a_push_n, true_and, and_true, true_implies, false_implies, implies_true, not_true_eq_false, not_false_eq_true, e_10, e_01, e_11, e_00, or_true, true_or, or_false, false_or, and_self, false_and, and_false, Bool.false_eq_true, if_true, if_false])
  have e0 : a_wr S (a + 1) (fun j => if j < 0 then S (a + 1) j + b else S (a + 1) j) = S := by
    rw [show (fun j => if j < 0 then S (a + 1) j + b else S (a + 1) j) = S (a + 1) from funext fun j => if_neg (by omega), a_wr_self]
  rw [e0] at hl
  rw [x_X3_lighten_0]
  refine hl.trans ?_
  simp only [x_X3_lighten_2, sha_cls ha, c_dots (key _), x_X3_lighten_7, yle rfl (Nat.le_refl (w * h)) (show w * h < 2147483648 by omega), x_X3_lighten_30, a_push_s, a_push_n, true_and, and_true, true_implies, false_implies, implies_true, not_true_eq_false, not_false_eq_true, e_10, e_01, e_11, e_00, or_true, true_or, or_false, false_or, and_self, false_and, and_false, Bool.false_eq_true, if_true, if_false]
/-- a row, or some of its columns, made white -/
def whF (f : Nat → Int32) (w r : Nat) (m : Int32) (x : Nat) : Nat → Int32 := fun j => if (r * w ≤ j ∧ j < r * w + x) ∧ ¬ (m &&& ((1 : Int32) <<< (nI (j - r * w) &&& 31))) = 0 then 9 else f j
theorem c_whiten {S : aS} {a w h r : Nat} (hs : shW S a w h) (hr : r < h) (m : Int32) (G : aG) (Q : aQ) : aX mX3_whiten 0 [.ref a, .int (nI r), .int m, .null] [] S G Q ↔ Q none (a_wr S (a + 1) (whF (S (a + 1)) w r m w)) G := by
  have hn := shW_n hs
  have ha := hs.1
  obtain ⟨-, h3, h4, hw, hh⟩ := hs
  have key : ∀ f, shW (a_wr S (a + 1) f) a w h := fun f => ⟨ha, by rw [a_wr_ne _ _ (by omega)]; exact h3, by rw [a_wr_ne _ _ (by omega)]; exact h4, hw, hh⟩
  have hl := lp (n := w) (P := fun i => aX mX3_whiten 2 [.ref a, .int (nI r), .int m, .int (nI i)] [] (a_wr S (a + 1) (whF (S (a + 1)) w r m i)) G Q) (fun i hi => by
    have hix : r * w + i < w * h := by
      have : r * w + w ≤ h * w := by rw [← Nat.succ_mul]; exact Nat.mul_le_mul_right w hr
      rw [Nat.mul_comm w h]; omega
    have e3 : (a_wr S (a + 1) (whF (S (a + 1)) w r m i)) a 3 = nI w := (key _).2.1
    refine (x_X3_whiten_2 _ _ _ _ _ G Q).trans ?_
    simp only [sha_cls ha, e3, nle rfl hi (show w < 2147483648 by omega), x_X3_whiten_10, x_X3_whiten_18, pk_mul, nI_add, c_setGrey (key _) hix, x_X3_whiten_33, nI_1, a_push_s, a_push_n, true_and, and_true, true_implies, false_implies, implies_true, not_true_eq_false, not_false_eq_true, e_10, e_01, e_11, e_00, or_true, true_or, or_false, false_or, and_self, false_and, and_false, Bool.false_eq_true, if_true, if_false]
    by_cases c : m &&& ((1 : Int32) <<< (nI i &&& 31)) = 0
    · have es : whF (S (a + 1)) w r m (i + 1) = whF (S (a + 1)) w r m i := by
        funext j
        unfold whF
        by_cases hj : j = r * w + i
        · subst hj
          rw [Nat.add_sub_cancel_left]
          rw [if_neg (by intro z; exact z.2 c), if_neg (by intro z; exact z.2 c)]
        · by_cases q : r * w ≤ j ∧ j < r * w + i
          · simp only [q, show r * w ≤ j ∧ j < r * w + (i + 1) by omega, true_and, and_self]
          · simp only [q, show ¬ (r * w ≤ j ∧ j < r * w + (i + 1)) by omega, false_and]
      simp only [c, es, a_push_s, a_push_n, true_and, and_true, true_implies, false_implies, implies_true, not_true_eq_false, not_false_eq_true, e_10, e_01, e_11, e_00, or_true, true_or, or_false, false_or, and_self, false_and, and_false, Bool.false_eq_true, if_true, if_false]
    · have es : a_pf (a_wr S (a + 1) (whF (S (a + 1)) w r m i)) (a + 1) (r * w + i) 9 = a_wr S (a + 1) (whF (S (a + 1)) w r m (i + 1)) := by
        unfold a_pf
        rw [a_wr_wr, a_wr_same]
        congr 1
        funext j
        unfold upd whF
        by_cases hj : j = r * w + i
        · subst hj
          rw [if_pos rfl, Nat.add_sub_cancel_left, if_pos ⟨by omega, c⟩]
        · rw [if_neg hj]
          by_cases q : r * w ≤ j ∧ j < r * w + i
          · simp only [q, show r * w ≤ j ∧ j < r * w + (i + 1) by omega, true_and, and_self]
          · simp only [q, show ¬ (r * w ≤ j ∧ j < r * w + (i + 1)) by omega, false_and]
      simp only [c, es, a_push_s, a_push_n, true_and, and_true, true_implies, false_implies, implies_true, not_true_eq_false, not_false_eq_true, e_10, e_01, e_11, e_00, or_true, true_or, or_false, false_or, and_self, false_and, and_false, Bool.false_eq_true, if_true, if_false])
  have e0 : a_wr S (a + 1) (whF (S (a + 1)) w r m 0) = S := by
    rw [show whF (S (a + 1)) w r m 0 = S (a + 1) from funext fun j => if_neg (by omega), a_wr_self]
  rw [e0] at hl
  rw [x_X3_whiten_0]
  refine hl.trans ?_
  have e3 : (a_wr S (a + 1) (whF (S (a + 1)) w r m w)) a 3 = nI w := (key _).2.1
  simp only [x_X3_whiten_2, sha_cls ha, e3, yle rfl (Nat.le_refl w) (show w < 2147483648 by omega), x_X3_whiten_39, a_push_s, a_push_n, true_and, and_true, true_implies, false_implies, implies_true, not_true_eq_false, not_false_eq_true, e_10, e_01, e_11, e_00, or_true, true_or, or_false, false_or, and_self, false_and, and_false, Bool.false_eq_true, if_true, if_false]
theorem c_copyFrom {a b : Nat} (ha : sha a) (hb : sha b) (hab : a ≠ b) (S : aS) (G : aG) : ∃ S', shR a S S' ∧ (∀ p w h, pOk p w h → sh S b p w h → sh S' a p w h) ∧ ∀ Q, (aX mX3_copyFrom 0 [.ref a, .ref b] [] S G Q ↔ Q none S' G) := by
  obtain ⟨T1, e1⟩ : ∃ T, T = a_pf S a 3 (S b 3) := ⟨_, rfl⟩
  obtain ⟨T2, e2⟩ : ∃ T, T = a_pf T1 a 4 (T1 b 4) := ⟨_, rfl⟩
  obtain ⟨T3, e3⟩ : ∃ T, T = a_wr T2 (a + 1) (va_cpy (T2 (b + 1)) (T2 (a + 1)) 0 0 25) := ⟨_, rfl⟩
  obtain ⟨T4, e4⟩ : ∃ T, T = a_wr T3 (a + 2) (va_cpy (T3 (b + 2)) (T3 (a + 2)) 0 0 25) := ⟨_, rfl⟩
  obtain ⟨T5, e5⟩ : ∃ T, T = a_wr T4 (a + 3) (va_cpy (T4 (b + 3)) (T4 (a + 3)) 0 0 10) := ⟨_, rfl⟩
  obtain ⟨T6, e6⟩ : ∃ T, T = a_pf (a_pf (a_pf T5 a 5 (T5 b 5)) a 6 (T5 b 6)) a 7 (T5 b 7) := ⟨_, rfl⟩
  obtain ⟨T7, e7⟩ : ∃ T, T = a_pf (a_pf T6 a 8 (T6 b 8)) a 9 (T6 b 9) := ⟨_, rfl⟩
  have hba : b ≠ a := fun h => hab h.symm
  have d1 : a ≠ b + 1 ∧ a ≠ b + 2 ∧ a ≠ b + 3 ∧ b ≠ a + 1 ∧ b ≠ a + 2 ∧ b ≠ a + 3 := by rcases ha with rfl | rfl | rfl | rfl <;> rcases hb with rfl | rfl | rfl | rfl <;> omega
  have d2 : a + 1 ≠ b + 2 ∧ a + 1 ≠ b + 3 ∧ a + 2 ≠ b + 1 ∧ a + 2 ≠ b + 3 ∧ a + 3 ≠ b + 1 ∧ a + 3 ≠ b + 2 := by rcases ha with rfl | rfl | rfl | rfl <;> rcases hb with rfl | rfl | rfl | rfl <;> omega
  -- rows of the end
  have k7 : ∀ c, c ≠ a → T7 c = T5 c := fun c h => by rw [e7, a_pf_row _ _ _ h, a_pf_row _ _ _ h, e6, a_pf_row _ _ _ h, a_pf_row _ _ _ h, a_pf_row _ _ _ h]
  have k2 : ∀ c, c ≠ a → T2 c = S c := fun c h => by rw [e2, a_pf_row _ _ _ h, e1, a_pf_row _ _ _ h]
  have k5 : ∀ c, c ≠ a + 1 → c ≠ a + 2 → c ≠ a + 3 → T5 c = T2 c := fun c h1 h2 h3 => by rw [e5, a_wr_ne _ _ h3, e4, a_wr_ne _ _ h2, e3, a_wr_ne _ _ h1]
  have kb : T5 b = S b := by rw [k5 b d1.2.2.2.1 d1.2.2.2.2.1 d1.2.2.2.2.2, k2 b hba]
  have kb6 : T6 b = S b := by rw [e6, a_pf_row _ _ _ hba, a_pf_row _ _ _ hba, a_pf_row _ _ _ hba, kb]
  have ka : T5 a = T2 a := k5 a (by omega) (by omega) (by omega)
  have f1 : T7 (a + 1) = va_cpy (S (b + 1)) (S (a + 1)) 0 0 25 := by
    rw [k7 _ (by omega), e5, a_wr_ne _ _ (by omega), e4, a_wr_ne _ _ (by omega), e3, a_wr_same, k2 _ (by omega), k2 _ (by omega)]
  have f2 : T7 (a + 2) = va_cpy (S (b + 2)) (S (a + 2)) 0 0 25 := by
    rw [k7 _ (by omega), e5, a_wr_ne _ _ (by omega), e4, a_wr_same, e3, a_wr_ne _ _ (by omega), a_wr_ne _ _ (by omega), k2 _ (by omega), k2 _ (by omega)]
  have f3 : T7 (a + 3) = va_cpy (S (b + 3)) (S (a + 3)) 0 0 10 := by
    rw [k7 _ (by omega), e5, a_wr_same, e4, a_wr_ne _ _ (by omega), a_wr_ne _ _ (by omega), e3, a_wr_ne _ _ (by omega), a_wr_ne _ _ (by omega), k2 _ (by omega), k2 _ (by omega)]
  have g3 : T7 a 3 = S b 3 := by rw [e7, a_pf_ne _ _ _ (by decide), a_pf_ne _ _ _ (by decide), e6, a_pf_ne _ _ _ (by decide), a_pf_ne _ _ _ (by decide), a_pf_ne _ _ _ (by decide), ka, e2, a_pf_ne _ _ _ (by decide), e1, a_pf_same]
  have g4 : T7 a 4 = S b 4 := by rw [e7, a_pf_ne _ _ _ (by decide), a_pf_ne _ _ _ (by decide), e6, a_pf_ne _ _ _ (by decide), a_pf_ne _ _ _ (by decide), a_pf_ne _ _ _ (by decide), ka, e2, a_pf_same, e1, a_pf_row _ _ _ hba]
  have g5 : T7 a 5 = S b 5 := by rw [e7, a_pf_ne _ _ _ (by decide), a_pf_ne _ _ _ (by decide), e6, a_pf_ne _ _ _ (by decide), a_pf_ne _ _ _ (by decide), a_pf_same, kb]
  have g6 : T7 a 6 = S b 6 := by rw [e7, a_pf_ne _ _ _ (by decide), a_pf_ne _ _ _ (by decide), e6, a_pf_ne _ _ _ (by decide), a_pf_same, kb]
  have g7 : T7 a 7 = S b 7 := by rw [e7, a_pf_ne _ _ _ (by decide), a_pf_ne _ _ _ (by decide), e6, a_pf_same, kb]
  have g8 : T7 a 8 = S b 8 := by rw [e7, a_pf_ne _ _ _ (by decide), a_pf_same, kb6]
  have g9 : T7 a 9 = S b 9 := by rw [e7, a_pf_same, kb6]
  refine ⟨T7, fun c h0 h1 h2 h3 => by rw [k7 c h0, k5 c h1 h2 h3, k2 c h0], fun p w h hp hs => ?_, fun Q => ?_⟩
  · have hn := pOk_n hp
    obtain ⟨-, s1, s2, s3, s4, ⟨s5, s6, s7⟩, s8, s9, s10⟩ := hs
    refine ⟨ha, g3.trans s1, g4.trans s2, fun d hd => ?_, fun d hd => ?_, ⟨g5.trans s5, g6.trans s6, g7.trans s7⟩, fun g hg => ?_, g8.trans s9, g9.trans s10⟩
    · rw [f1, pk_cpy_in (by omega) (by omega)]; simpa using s3 d hd
    · rw [f2, pk_cpy_in (by omega) (by omega)]; simpa using s4 d hd
    · rw [f3, pk_cpy_in (by omega) (by omega)]; simpa using s8 g hg
  · have t25 : Int32.toNatClampNeg 25 = 25 := rfl
    have t10 : Int32.toNatClampNeg 10 = 10 := rfl
    have z0 : ((0 : Int32) < 0) = False := by decide
    have z25 : ((25 : Int32) < 0) = False := by decide
    have z10 : ((10 : Int32) < 0) = False := by decide
    have n1 : (0 + 25 ≤ 25) = True := by decide
    have n2 : (0 + 10 ≤ 10) = True := by decide
    have n3 : (0 < 25) = True := by decide
    have n4 : (0 < 10) = True := by decide
    simp only [x_X3_copyFrom_0, x_X3_copyFrom_8, x_X3_copyFrom_16, x_X3_copyFrom_31, x_X3_copyFrom_46, x_X3_copyFrom_61, x_X3_copyFrom_77, x_X3_copyFrom_89, sha_cls ha, sha_cls hb, ← e1, ← e2, sha_0 ha, sha_0 hb, sha_1 ha, sha_1 hb, sha_2 ha, sha_2 hb, sha_t ha, sha_t hb, sha_l1 ha, sha_l1 hb, sha_l2 ha, sha_l2 hb, sha_l3 ha, sha_l3 hb, tc_0, t25, t10, z0, z25, z10, n1, n2, n3, n4, ← e3, ← e4, ← e5, c_setRule ha, ← e6, c_setLie ha, ← e7, a_push_s, a_push_n, true_and, and_true, true_implies, false_implies, implies_true, not_true_eq_false, not_false_eq_true, e_10, e_01, e_11, e_00, or_true, true_or, or_false, false_or, and_self, false_and, and_false, Bool.false_eq_true, if_true, if_false]
