theorem wb_tb (n : Nat) : (lN n).toBitVec = BitVec.ofNat 64 n := rfl
theorem wb_inj {a b : Int64} (h : a.toBitVec = b.toBitVec) : a = b := Int64.toBitVec_inj.mp h
theorem wb_tn {n : Nat} (h : n < 2 ^ 64) : (lN n).toBitVec.toNat = n := by rw [wb_tb, BitVec.toNat_ofNat, Nat.mod_eq_of_lt h]
theorem wb_of (x : Int64) : ∃ n, n < 2 ^ 64 ∧ x = lN n := ⟨x.toBitVec.toNat, x.toBitVec.isLt, wb_inj (by rw [wb_tb]; simp)⟩
theorem wb_of32 (x : Int32) : ∃ n, n < 2 ^ 32 ∧ x = nI n := ⟨x.toBitVec.toNat, x.toBitVec.isLt, Int32.toBitVec_inj.mp (by show _ = BitVec.ofNat 32 _; simp)⟩
theorem wb_c : ∀ k, k < 64 → ((nI k).toInt64 &&& 63) = lN k := by decide +kernel
theorem wb_cu : ∀ k, k < 64 → ((nI k).toInt64.toUInt64 &&& Int64.toUInt64 63) = UInt64.ofNat k := by decide +kernel
theorem wb_sm : ∀ k, k < 64 → (BitVec.ofNat 64 k).smod 64 = BitVec.ofNat 64 k := by decide +kernel
theorem wb_pw {a b : Nat} (h : a ≤ b) : 2 ^ b = 2 ^ a * 2 ^ (b - a) := by rw [← Nat.pow_add]; congr 1; omega
theorem wb_lt2 {a b : Nat} (h : a < b) : 2 ^ a < 2 ^ b := Nat.pow_lt_pow_right (by decide) h
theorem wb_mod (n : Nat) : lN n = lN (n % 2 ^ 64) := wb_inj (by rw [wb_tb, wb_tb]; apply BitVec.eq_of_toNat_eq; rw [BitVec.toNat_ofNat, BitVec.toNat_ofNat, Nat.mod_mod])
theorem wb_shr {n k : Nat} (hn : n < 2 ^ 64) (hk : k < 64) : ((lN n).toUInt64 >>> ((nI k).toInt64.toUInt64 &&& Int64.toUInt64 63)).toInt64 = lN (n / 2 ^ k) := by
  rw [wb_cu k hk]
  apply wb_inj
  apply BitVec.eq_of_toNat_eq
  show ((lN n).toUInt64 >>> UInt64.ofNat k).toNat = (BitVec.ofNat 64 _).toNat
  have h1 : (UInt64.ofNat k).toNat = k := by
    show (BitVec.ofNat 64 k).toNat = k
    rw [BitVec.toNat_ofNat, Nat.mod_eq_of_lt (by omega)]
  have h2 : (lN n).toUInt64.toNat = n := wb_tn hn
  rw [UInt64.toNat_shiftRight, h1, h2, Nat.mod_eq_of_lt hk, Nat.shiftRight_eq_div_pow, BitVec.toNat_ofNat, Nat.mod_eq_of_lt (Nat.lt_of_le_of_lt (Nat.div_le_self _ _) hn)]
/-! PAIRS: drawn -/
theorem drw_ok (g : Int64) : ∃ x, x < 2147483648 ∧ Int64.toInt32 ((Int64.toUInt64 g >>> (Int64.toUInt64 (Int32.toInt64 33) &&& Int64.toUInt64 63)).toInt64) = nI x := by
  obtain ⟨n, hn, rfl⟩ := wb_of g
  refine ⟨n / 2 ^ 33, by omega, ?_⟩
  have := wb_shr (n := n) (k := 33) hn (by omega)
  rw [show (33 : Int32) = nI 33 from rfl, this, lN_i]
theorem d_loop {w h m k b : Nat} (hm : m ≤ 20) (hk : k ≤ 2) (hb : b ≤ 9) : ∀ (j i : Nat) (p : Nat → Int32) (g : Int64), i + j = m → pOk p w h → p 53 = nI k → p 54 = nI b → ∃ (r : Int32) (g2 : Int64), (∀ (S : aS) (G : aG) (v : Value) (a : Int32), sh S 7 p w h → G 0 = g → ∃ S', clT S S' ∧ ∀ Q, (aX mX5_drawn 29 [.ref 0, .int (nI m), .int a, .int (nI i), v] [] S G Q ↔ Q (some (.int (a + r))) S' (a_wr G 0 g2))) ∧ (∀ (S : aS) (G : aG) (v : Value) (a : Int32), S 38 = p → G 34 = g → ∃ S', scr S S' ∧ ∀ Q, (aX mX6_drawn 28 [.ref 34, .int (nI m), .int a, .int (nI i), v] [] S G Q ↔ Q (some (.int (a + r))) S' (a_wr G 34 g2))) := by
  intro j
  induction j with
  | zero =>
    intro i p g hi hp h53 h54
    refine ⟨0, g, fun S G v a hs hg => ⟨S, clT_refl S, fun Q => ?_⟩, fun S G v a hs hg => ⟨S, scr_refl S, fun Q => ?_⟩⟩
    · rw [← hg, a_wr_self, Int32.add_zero]
      simp only [x_X5_drawn_29, yle rfl (show m ≤ i by omega) (show i < 2147483648 by omega), x_X5_drawn_109, a_push_s, a_push_n, true_and, and_true, true_implies, false_implies, implies_true, not_true_eq_false, not_false_eq_true, e_10, e_01, e_11, e_00, or_true, true_or, or_false, false_or, and_self, false_and, and_false, Bool.false_eq_true, if_true, if_false]
    · rw [← hg, a_wr_self, Int32.add_zero]
      simp only [x_X6_drawn_28, yle rfl (show m ≤ i by omega) (show i < 2147483648 by omega), x_X6_drawn_104, a_push_s, a_push_n, true_and, and_true, true_implies, false_implies, implies_true, not_true_eq_false, not_false_eq_true, e_10, e_01, e_11, e_00, or_true, true_or, or_false, false_or, and_self, false_and, and_false, Bool.false_eq_true, if_true, if_false]
  | succ j ih =>
    intro i p g hi hp h53 h54
    have hn := pOk_n hp
    obtain ⟨g1, eg⟩ : ∃ g1, g1 = g * 6364136223846793005 + 1442695040888963407 := ⟨_, rfl⟩
    obtain ⟨x, hx, ex⟩ := drw_ok g1
    have hd : x % (w * h) < w * h := Nat.mod_lt _ (by omega)
    obtain ⟨q, eq⟩ : ∃ q, q = upd p (2 + x % (w * h)) (nI (x / 32 % 10)) := ⟨_, rfl⟩
    have hq : pOk q w h := by rw [eq]; exact pOk_front hp hd (by omega)
    have q53 : q 53 = nI k := by rw [eq, upd_ne _ _ (by omega)]; exact h53
    have q54 : q 54 = nI b := by rw [eq, upd_ne _ _ (by omega)]; exact h54
    obtain ⟨r, g2, h5, h6⟩ := ih (i + 1) q g1 (by omega) hq q53 q54
    have ne0 : (nI (w * h) = 0) = False := eq_false (nI_ne0 (by omega) (by omega))
    have dv : nI x / 32 = nI (x / 32) := pk_div (d := 32) (by omega) (by omega) (by omega)
    have dv2 : nI (x / 32) / 10 = nI (x / 32 / 10) := pk_div (d := 10) (by omega) (by omega) (by omega)
    have dg : nI (x / 32) - nI (x / 32 / 10) * 10 = nI (x / 32 % 10) := rem_n (x / 32) 10
    have dn : nI x / nI (w * h) = nI (x / (w * h)) := pk_div (by omega) (by omega) (by omega)
    refine ⟨nI (hmF q w h k (nI b) 2) + r, g2, fun S G v a hs hg => ?_, fun S G v a hs hg => ?_⟩
    · obtain ⟨S1, e1⟩ : ∃ S1, S1 = a_pf S (7 + 1) (x % (w * h)) (nI (x / 32 % 10)) := ⟨_, rfl⟩
      have s1 : sh S1 7 q w h := by rw [e1, eq]; exact sh_front hs hn.2 hd _
      obtain ⟨S2, r2, hX2⟩ := c_howMany s1 hq q53 hk q54 hb 2 (a_wr G 0 g1)
      obtain ⟨S3, r3, hX3⟩ := h5 S2 (a_wr G 0 g1) (.int (nI x)) (a + nI (hmF q w h k (nI b) 2)) (sh_eyR s1 r2) (a_wr_same _ _ _)
      refine ⟨S3, clT_trans (clT_trans (clT_7 (by rw [e1]; exact shR_fp S 7 _)) (clT_ey r2)) r3, fun Q => ?_⟩
      rw [a_wr_wr] at hX3
      rw [← Int32.add_assoc]
      refine Iff.trans ?_ (hX3 Q)
      rw [x_X5_drawn_29]
      simp only [nle rfl (show i < m by omega) (show m < 2147483648 by omega), x_X5_drawn_34, a_cls_0, a_rf_0_0, a_rf_0_1, a_rf_0_2, a_rf_0_3, a_rf_0_4, a_rf_0_5, a_rf_0_6, a_rf_0_7, a_rf_0_8, a_cls_1, a_rf_1_0, a_len_2, a_get_2, a_cls_3, a_rf_3_0, a_rf_3_1, a_rf_3_2, a_len_4, a_get_4, a_len_5, a_get_5, a_len_6, a_get_6, a_cls_7, a_rf_7_0, a_rf_7_1, a_rf_7_2, a_len_8, a_get_8, a_len_9, a_get_9, a_len_10, a_get_10, a_cls_11, a_rf_11_0, a_rf_11_1, a_rf_11_2, a_len_12, a_get_12, a_len_13, a_get_13, a_len_14, a_get_14, a_cls_15, a_rf_15_0, a_rf_15_1, a_rf_15_2, a_len_16, a_get_16, a_len_17, a_get_17, a_len_18, a_get_18, a_cls_19, a_rf_19_0, a_rf_19_1, a_rf_19_2, a_rf_19_3, a_rf_19_4, a_len_20, a_get_20, a_len_21, a_get_21, a_len_22, a_get_22, a_len_23, a_get_23, a_len_24, a_get_24, a_cls_25, a_rf_25_0, a_rf_25_1, a_rf_25_2, a_rf_25_3, a_len_26, a_get_26, a_len_27, a_get_27, a_len_28, a_get_28, a_len_29, a_get_29, a_cls_30, a_rf_30_0, a_rf_30_1, a_len_31, a_get_31, a_len_32, a_get_32, a_len_33, a_get_33, a_cls_34, a_rf_34_1, a_rf_34_3, a_rf_34_4, a_rf_34_5, a_rf_34_6, a_rf_34_8, a_rf_34_9, a_rf_34_11, a_rf_34_12, a_rf_34_21, a_len_35, a_get_35, a_len_36, a_get_36, a_len_37, a_get_37, a_len_38, a_get_38, a_len_39, a_get_39, a_len_40, a_get_40, a_len_42, a_get_42, a_len_43, a_get_43, a_len_44, a_get_44, a_len_1000, a_get_1000, a_len_1002, a_get_1002, l45, hg, ← eg, x_X5_drawn_50, c_dots (sh_W hs hp), a_wr_same, ex, x_X5_drawn_74, x_X5_remainder_0, x_X5_remainder_8, x_X5_remainder_11, ne0, dn, rem_n, x_X5_drawn_77, dv, dv2, dg, c_setGrey (sh_W hs hp) hd, ← e1, x_X5_drawn_88, hX2, x_X5_drawn_101, nI_1, a_push_s, a_push_n, true_and, and_true, true_implies, false_implies, implies_true, not_true_eq_false, not_false_eq_true, e_10, e_01, e_11, e_00, or_true, true_or, or_false, false_or, and_self, false_and, and_false, Bool.false_eq_true, if_true, if_false]
    · obtain ⟨S1, e1⟩ : ∃ S1, S1 = a_pf S 38 (2 + x % (w * h)) (nI (x / 32 % 10)) := ⟨_, rfl⟩
      have s1 : S1 38 = q := by rw [e1, upd_row, hs, eq]
      obtain ⟨S2, r2, hX2⟩ := c_inkOf rr38 (S := S1) (w := w) (h := h) (k := k) (by rw [s1]; exact hq) (by rw [s1]; exact q53) (by omega) (a_wr G 34 g1)
      rw [s1, q54] at hX2
      obtain ⟨S3, r3, hX3⟩ := h6 S2 (a_wr G 34 g1) (.int (nI x)) (a + nI (hmF q w h k (nI b) 2)) (by rw [r2.1 38 (by decide), s1]) (a_wr_same _ _ _)
      refine ⟨S3, scr_trans (scr_trans (by rw [e1]; exact scr_38 S _) (scr_rw r2)) r3, fun Q => ?_⟩
      rw [a_wr_wr] at hX3
      rw [← Int32.add_assoc]
      refine Iff.trans ?_ (hX3 Q)
      have hp1 : pOk (S 38) w h := by rw [hs]; exact hp
      rw [x_X6_drawn_28]
      simp only [nle rfl (show i < m by omega) (show m < 2147483648 by omega), x_X6_drawn_33, a_cls_0, a_rf_0_0, a_rf_0_1, a_rf_0_2, a_rf_0_3, a_rf_0_4, a_rf_0_5, a_rf_0_6, a_rf_0_7, a_rf_0_8, a_cls_1, a_rf_1_0, a_len_2, a_get_2, a_cls_3, a_rf_3_0, a_rf_3_1, a_rf_3_2, a_len_4, a_get_4, a_len_5, a_get_5, a_len_6, a_get_6, a_cls_7, a_rf_7_0, a_rf_7_1, a_rf_7_2, a_len_8, a_get_8, a_len_9, a_get_9, a_len_10, a_get_10, a_cls_11, a_rf_11_0, a_rf_11_1, a_rf_11_2, a_len_12, a_get_12, a_len_13, a_get_13, a_len_14, a_get_14, a_cls_15, a_rf_15_0, a_rf_15_1, a_rf_15_2, a_len_16, a_get_16, a_len_17, a_get_17, a_len_18, a_get_18, a_cls_19, a_rf_19_0, a_rf_19_1, a_rf_19_2, a_rf_19_3, a_rf_19_4, a_len_20, a_get_20, a_len_21, a_get_21, a_len_22, a_get_22, a_len_23, a_get_23, a_len_24, a_get_24, a_cls_25, a_rf_25_0, a_rf_25_1, a_rf_25_2, a_rf_25_3, a_len_26, a_get_26, a_len_27, a_get_27, a_len_28, a_get_28, a_len_29, a_get_29, a_cls_30, a_rf_30_0, a_rf_30_1, a_len_31, a_get_31, a_len_32, a_get_32, a_len_33, a_get_33, a_cls_34, a_rf_34_1, a_rf_34_3, a_rf_34_4, a_rf_34_5, a_rf_34_6, a_rf_34_8, a_rf_34_9, a_rf_34_11, a_rf_34_12, a_rf_34_21, a_len_35, a_get_35, a_len_36, a_get_36, a_len_37, a_get_37, a_len_38, a_get_38, a_len_39, a_get_39, a_len_40, a_get_40, a_len_42, a_get_42, a_len_43, a_get_43, a_len_44, a_get_44, a_len_1000, a_get_1000, a_len_1002, a_get_1002, l45, hg, ← eg, x_X6_drawn_49, c_dotsOf rr38 hp1.1.1 hp1.1.2.1, a_wr_same, ex, x_X6_drawn_73, ne0, dn, rem_n, add_2, ain (show 2 + x % (w * h) < 67 by omega) (by omega), tc_n (show 2 + x % (w * h) < 2147483648 by omega), dv, dv2, dg, show (38 < 45) = True by decide, ← e1, x_X6_drawn_84, hX2, x_X6_drawn_93, c_many, many_ink hq, x_X6_drawn_96, nI_1, a_push_s, a_push_n, true_and, and_true, true_implies, false_implies, implies_true, not_true_eq_false, not_false_eq_true, e_10, e_01, e_11, e_00, or_true, true_or, or_false, false_or, and_self, false_and, and_false, Bool.false_eq_true, if_true, if_false]
theorem p_drawn {X N : Nat → Int32} {S : aS} {G : aG} (hI : InvE X N S G) (q : Int32) : Pr X N mX5_drawn mX6_drawn [.ref 0, .int q, .null, .null, .null] [.ref 34, .int q, .null, .null, .null] S G := by
  have hI0 := hI
  obtain ⟨w, h, T, nt, nd, b0, b1, ns, hi⟩ := hI
  have hs3 := hi.1.2
  have hp := hi.1.1
  have hn := pOk_n hp
  obtain ⟨k, hk, ek⟩ := hp.2.2.2.2.1
  obtain ⟨b, hb, eb⟩ := hp.2.2.2.2.2.1
  have q1 : (q < 1) = (q.toInt < 1) := by rw [lt_i]; rfl
  have q20 : (q ≤ 20) = (q.toInt ≤ 20) := by rw [le_i]; rfl
  by_cases c1 : 1 ≤ q.toInt ∧ q.toInt ≤ 20
  · obtain ⟨m, hm, rfl⟩ := nI_back (x := q) (by omega) (n := 21) (by omega)
    have x1 : ¬ (nI m).toInt < 1 := by omega
    obtain ⟨p0, ep⟩ : ∃ p0, p0 = cpR S 38 (S 37) 0 67 38 := ⟨_, rfl⟩
    have eqp : eqP p0 (S 37) := fun j hj => by rw [ep, cpR_in _ _ _ (by omega)]; rfl
    have hp0 := pOk_ext hp eqp
    obtain ⟨r, g2, h5, h6⟩ := d_loop (w := w) (h := h) (m := m) (k := k) (b := b) (by omega) hk hb m 0 p0 (G 0) (by omega) hp0 (by rw [eqp 53 (by omega)]; exact ek) (by rw [eqp 54 (by omega)]; exact eb)
    obtain ⟨S1, a1, a2, a3⟩ := c_copyFrom sha7 hs3.1 (by decide) S G
    have s1 := sh_ext (a2 _ _ _ hp hs3) hn.2 eqp
    obtain ⟨S2, b1', b2⟩ := h5 S1 G .null 0 s1 rfl
    have rS := clT_trans (clT_7 a1) b1'
    have g37 : a_pf S2 34 0 0 37 = S 37 := by rw [a_pf_row _ _ _ (by decide), rS 37 (by omega) (by omega)]
    have g38 : a_pf S2 34 0 0 38 = S 38 := by rw [a_pf_row _ _ _ (by decide), rS 38 (by omega) (by omega)]
    obtain ⟨S3, e3⟩ : ∃ S3, S3 = cpR (a_pf S2 34 0 0) 38 (S 37) 0 67 := ⟨_, rfl⟩
    have e38 : S3 38 = p0 := by
      rw [e3, ep]
      unfold cpR
      rw [a_wr_same, a_wr_same, g38]
    obtain ⟨S4, d1, d2⟩ := h6 S3 (a_wr G 0 g2) .null 0 e38 (by rw [a_wr_ne _ _ (by decide)]; exact hi.2.2.2.2.2.1.symm)
    have sc := scr_trans (clT_scr rS) (scr_trans (scr_rw (rw6_pf S2 (j := 0) 0 (Or.inl rfl))) (scr_trans (by rw [e3]; exact scr_38 _ _) d1))
    refine ⟨.int (0 + r), S2, a_wr G 0 g2, S4, a_wr (a_wr G 0 g2) 34 g2, fun Q => ?_, fun Q => ?_, ?_⟩
    · refine Iff.trans ?_ (b2 Q)
      rw [x_X5_drawn_0]
      simp only [q1, x1, x_X5_drawn_5, q20, c1.2, x_X5_drawn_14, a_cls_0, a_rf_0_0, a_rf_0_1, a_rf_0_2, a_rf_0_3, a_rf_0_4, a_rf_0_5, a_rf_0_6, a_rf_0_7, a_rf_0_8, a_cls_1, a_rf_1_0, a_len_2, a_get_2, a_cls_3, a_rf_3_0, a_rf_3_1, a_rf_3_2, a_len_4, a_get_4, a_len_5, a_get_5, a_len_6, a_get_6, a_cls_7, a_rf_7_0, a_rf_7_1, a_rf_7_2, a_len_8, a_get_8, a_len_9, a_get_9, a_len_10, a_get_10, a_cls_11, a_rf_11_0, a_rf_11_1, a_rf_11_2, a_len_12, a_get_12, a_len_13, a_get_13, a_len_14, a_get_14, a_cls_15, a_rf_15_0, a_rf_15_1, a_rf_15_2, a_len_16, a_get_16, a_len_17, a_get_17, a_len_18, a_get_18, a_cls_19, a_rf_19_0, a_rf_19_1, a_rf_19_2, a_rf_19_3, a_rf_19_4, a_len_20, a_get_20, a_len_21, a_get_21, a_len_22, a_get_22, a_len_23, a_get_23, a_len_24, a_get_24, a_cls_25, a_rf_25_0, a_rf_25_1, a_rf_25_2, a_rf_25_3, a_len_26, a_get_26, a_len_27, a_get_27, a_len_28, a_get_28, a_len_29, a_get_29, a_cls_30, a_rf_30_0, a_rf_30_1, a_len_31, a_get_31, a_len_32, a_get_32, a_len_33, a_get_33, a_cls_34, a_rf_34_1, a_rf_34_3, a_rf_34_4, a_rf_34_5, a_rf_34_6, a_rf_34_8, a_rf_34_9, a_rf_34_11, a_rf_34_12, a_rf_34_21, a_len_35, a_get_35, a_len_36, a_get_36, a_len_37, a_get_37, a_len_38, a_get_38, a_len_39, a_get_39, a_len_40, a_get_40, a_len_42, a_get_42, a_len_43, a_get_43, a_len_44, a_get_44, a_len_1000, a_get_1000, a_len_1002, a_get_1002, l45, a3, x_X5_drawn_25, nI_0, a_push_s, a_push_n, true_and, and_true, true_implies, false_implies, implies_true, not_true_eq_false, not_false_eq_true, e_10, e_01, e_11, e_00, or_true, true_or, or_false, false_or, and_self, false_and, and_false, Bool.false_eq_true, if_true, if_false]
    · refine Iff.trans ?_ (d2 Q)
      rw [x_X6_drawn_0]
      simp only [x_X6_drawn_5, x_X6_drawn_14, x_X6_drawn_20, x_X6_drawn_24, a_cls_0, a_rf_0_0, a_rf_0_1, a_rf_0_2, a_rf_0_3, a_rf_0_4, a_rf_0_5, a_rf_0_6, a_rf_0_7, a_rf_0_8, a_cls_1, a_rf_1_0, a_len_2, a_get_2, a_cls_3, a_rf_3_0, a_rf_3_1, a_rf_3_2, a_len_4, a_get_4, a_len_5, a_get_5, a_len_6, a_get_6, a_cls_7, a_rf_7_0, a_rf_7_1, a_rf_7_2, a_len_8, a_get_8, a_len_9, a_get_9, a_len_10, a_get_10, a_cls_11, a_rf_11_0, a_rf_11_1, a_rf_11_2, a_len_12, a_get_12, a_len_13, a_get_13, a_len_14, a_get_14, a_cls_15, a_rf_15_0, a_rf_15_1, a_rf_15_2, a_len_16, a_get_16, a_len_17, a_get_17, a_len_18, a_get_18, a_cls_19, a_rf_19_0, a_rf_19_1, a_rf_19_2, a_rf_19_3, a_rf_19_4, a_len_20, a_get_20, a_len_21, a_get_21, a_len_22, a_get_22, a_len_23, a_get_23, a_len_24, a_get_24, a_cls_25, a_rf_25_0, a_rf_25_1, a_rf_25_2, a_rf_25_3, a_len_26, a_get_26, a_len_27, a_get_27, a_len_28, a_get_28, a_len_29, a_get_29, a_cls_30, a_rf_30_0, a_rf_30_1, a_len_31, a_get_31, a_len_32, a_get_32, a_len_33, a_get_33, a_cls_34, a_rf_34_1, a_rf_34_3, a_rf_34_4, a_rf_34_5, a_rf_34_6, a_rf_34_8, a_rf_34_9, a_rf_34_11, a_rf_34_12, a_rf_34_21, a_len_35, a_get_35, a_len_36, a_get_36, a_len_37, a_get_37, a_len_38, a_get_38, a_len_39, a_get_39, a_len_40, a_get_40, a_len_42, a_get_42, a_len_43, a_get_43, a_len_44, a_get_44, a_len_1000, a_get_1000, a_len_1002, a_get_1002, l45, c_in, i2l_i, tl_1, tl_20, bq_t c1, c_begin, g37, ← e3, nI_0, a_push_s, a_push_n, true_and, and_true, true_implies, false_implies, implies_true, not_true_eq_false, not_false_eq_true, e_10, e_01, e_11, e_00, or_true, true_or, or_false, false_or, and_self, false_and, and_false, Bool.false_eq_true, if_true, if_false]
    · obtain ⟨h1, h2, h3, h4, h5, h6, h7, h8⟩ := Inv_scr hi sc
      exact ⟨w, h, T, nt, nd, b0, b1, ns, h1, h2, h3, h4, h5, by rw [a_wr_same, a_wr_ne _ _ (by decide), a_wr_same], h7, h8⟩
  · refine Pr_q hI0 (.int (-2)) S (a_pf S 34 0 0) (scr_refl S) (scr_rw (rw6_pf S 0 (Or.inl rfl))) (fun Q => ?_) (fun Q => ?_)
    · rw [x_X5_drawn_0]
      by_cases y : q.toInt < 1
      · simp only [q1, y, x_X5_drawn_11, a_push_s, a_push_n, true_and, and_true, true_implies, false_implies, implies_true, not_true_eq_false, not_false_eq_true, e_10, e_01, e_11, e_00, or_true, true_or, or_false, false_or, and_self, false_and, and_false, Bool.false_eq_true, if_true, if_false]
      · have y3 : ¬ q.toInt ≤ 20 := by omega
        simp only [q1, y, x_X5_drawn_5, q20, y3, x_X5_drawn_11, a_push_s, a_push_n, true_and, and_true, true_implies, false_implies, implies_true, not_true_eq_false, not_false_eq_true, e_10, e_01, e_11, e_00, or_true, true_or, or_false, false_or, and_self, false_and, and_false, Bool.false_eq_true, if_true, if_false]
    · rw [x_X6_drawn_0]
      simp only [x_X6_drawn_5, x_X6_drawn_14, x_X6_drawn_17, a_cls_0, a_rf_0_0, a_rf_0_1, a_rf_0_2, a_rf_0_3, a_rf_0_4, a_rf_0_5, a_rf_0_6, a_rf_0_7, a_rf_0_8, a_cls_1, a_rf_1_0, a_len_2, a_get_2, a_cls_3, a_rf_3_0, a_rf_3_1, a_rf_3_2, a_len_4, a_get_4, a_len_5, a_get_5, a_len_6, a_get_6, a_cls_7, a_rf_7_0, a_rf_7_1, a_rf_7_2, a_len_8, a_get_8, a_len_9, a_get_9, a_len_10, a_get_10, a_cls_11, a_rf_11_0, a_rf_11_1, a_rf_11_2, a_len_12, a_get_12, a_len_13, a_get_13, a_len_14, a_get_14, a_cls_15, a_rf_15_0, a_rf_15_1, a_rf_15_2, a_len_16, a_get_16, a_len_17, a_get_17, a_len_18, a_get_18, a_cls_19, a_rf_19_0, a_rf_19_1, a_rf_19_2, a_rf_19_3, a_rf_19_4, a_len_20, a_get_20, a_len_21, a_get_21, a_len_22, a_get_22, a_len_23, a_get_23, a_len_24, a_get_24, a_cls_25, a_rf_25_0, a_rf_25_1, a_rf_25_2, a_rf_25_3, a_len_26, a_get_26, a_len_27, a_get_27, a_len_28, a_get_28, a_len_29, a_get_29, a_cls_30, a_rf_30_0, a_rf_30_1, a_len_31, a_get_31, a_len_32, a_get_32, a_len_33, a_get_33, a_cls_34, a_rf_34_1, a_rf_34_3, a_rf_34_4, a_rf_34_5, a_rf_34_6, a_rf_34_8, a_rf_34_9, a_rf_34_11, a_rf_34_12, a_rf_34_21, a_len_35, a_get_35, a_len_36, a_get_36, a_len_37, a_get_37, a_len_38, a_get_38, a_len_39, a_get_39, a_len_40, a_get_40, a_len_42, a_get_42, a_len_43, a_get_43, a_len_44, a_get_44, a_len_1000, a_get_1000, a_len_1002, a_get_1002, l45, c_in, i2l_i, tl_1, tl_20, bq_f c1, a_push_s, a_push_n, true_and, and_true, true_implies, false_implies, implies_true, not_true_eq_false, not_false_eq_true, e_10, e_01, e_11, e_00, or_true, true_or, or_false, false_or, and_self, false_and, and_false, Bool.false_eq_true, if_true, if_false]
