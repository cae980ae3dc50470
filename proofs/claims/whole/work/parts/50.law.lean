/-! THE LAW'S LOOP -/
theorem cmp_self (x : Int64) : (lg_cmp x x = 0) = True := eq_true (by unfold lg_cmp; rw [if_neg (Int64.lt_irrefl), if_pos rfl])
theorem eq_self_i (x : Int32) : (x = x) = True := eq_true rfl
theorem lw_0 {X N : Nat → Int32} {S : aS} {G : aG} {len i : Nat} {Q : aQ} (hI : InvE X N S G) (hl : len ≤ 2560) (hN : N 0 = nI len) (hi : i + 5 ≤ len) (hc : ∀ S2 G2, InvE X N S2 G2 → aX mL_law 18 [.ref 1000, .ref 0, .ref 34, .int (nI (i + 5))] [] S2 G2 Q) : aX mL_law 168 [.ref 1000, .ref 0, .ref 34, .int (nI i)] [] S G Q := by
  have e0 : S 1000 = X := by obtain ⟨w, h, T, nt, nd, b0, b1, ns, hh⟩ := hI; exact hh.2.2.2.2.2.2.1
  have eN : S 1001 = N := by obtain ⟨w, h, T, nt, nd, b0, b1, ns, hh⟩ := hI; exact hh.2.2.2.2.2.2.2
  have l0 : a_len S 1000 = len := by
    show (S 1001 0).toNatClampNeg = len
    rw [eN, hN, tc_n (by omega)]
  have g0 : ∀ j, a_get S 1000 j = X j := fun j => by show S 1000 j = X j; rw [e0]
  have n1_ : nI i + 1 = nI (i + 1) := nI_1 i
  have n2_ : nI i + 2 = nI (i + 2) := nI_add i 2
  have n3_ : nI i + 3 = nI (i + 3) := nI_add i 3
  have n4_ : nI i + 4 = nI (i + 4) := nI_add i 4
  have n5_ : nI i + 5 = nI (i + 5) := nI_add i 5
  obtain ⟨r, S1, G1, S2, G2, h1, h2, h3⟩ := p_write hI (X (i + 1))
  obtain ⟨x, rfl⟩ := okr_int rfl (aX_ok h1)
  have f1 := aX_fx h1
  have e1 : S1 1000 = X := (f1 1000 (by omega)).trans e0
  have l1 : a_len S1 1000 = len := by
    show (S1 1001 0).toNatClampNeg = len
    rw [f1 1001 (by omega), eN, hN, tc_n (by omega)]
  have g1 : ∀ j, a_get S1 1000 j = X j := fun j => by show S1 1000 j = X j; rw [e1]
  simp only [x_L_law_168, x_L_law_177, x_L_law_186, x_L_law_189, x_L_law_1113, n1_, n2_, n3_, n4_, n5_, l0, g0, l1, g1, ain (show i + 1 < len by omega) (show len ≤ 2147483648 by omega), ain (show i + 2 < len by omega) (show len ≤ 2147483648 by omega), ain (show i + 3 < len by omega) (show len ≤ 2147483648 by omega), ain (show i + 4 < len by omega) (show len ≤ 2147483648 by omega), tc_n (show i + 1 < 2147483648 by omega), tc_n (show i + 2 < 2147483648 by omega), tc_n (show i + 3 < 2147483648 by omega), tc_n (show i + 4 < 2147483648 by omega), a_cls_0, a_cls_34, h1, h2, eq_self_i, cmp_self, a_push_s, a_push_n, true_and, and_true, true_implies, false_implies, implies_true, not_true_eq_false, not_false_eq_true, e_10, e_01, e_11, e_00, or_true, true_or, or_false, false_or, and_self, false_and, and_false, Bool.false_eq_true, if_true, if_false]
  exact hc S2 G2 h3
theorem lw_1 {X N : Nat → Int32} {S : aS} {G : aG} {len i : Nat} {Q : aQ} (hI : InvE X N S G) (hl : len ≤ 2560) (hN : N 0 = nI len) (hi : i + 5 ≤ len) (hc : ∀ S2 G2, InvE X N S2 G2 → aX mL_law 18 [.ref 1000, .ref 0, .ref 34, .int (nI (i + 5))] [] S2 G2 Q) : aX mL_law 191 [.ref 1000, .ref 0, .ref 34, .int (nI i)] [] S G Q := by
  have e0 : S 1000 = X := by obtain ⟨w, h, T, nt, nd, b0, b1, ns, hh⟩ := hI; exact hh.2.2.2.2.2.2.1
  have eN : S 1001 = N := by obtain ⟨w, h, T, nt, nd, b0, b1, ns, hh⟩ := hI; exact hh.2.2.2.2.2.2.2
  have l0 : a_len S 1000 = len := by
    show (S 1001 0).toNatClampNeg = len
    rw [eN, hN, tc_n (by omega)]
  have g0 : ∀ j, a_get S 1000 j = X j := fun j => by show S 1000 j = X j; rw [e0]
  have n1_ : nI i + 1 = nI (i + 1) := nI_1 i
  have n2_ : nI i + 2 = nI (i + 2) := nI_add i 2
  have n3_ : nI i + 3 = nI (i + 3) := nI_add i 3
  have n4_ : nI i + 4 = nI (i + 4) := nI_add i 4
  have n5_ : nI i + 5 = nI (i + 5) := nI_add i 5
  obtain ⟨r, S1, G1, S2, G2, h1, h2, h3⟩ := p_wipe hI 
  obtain ⟨x, rfl⟩ := okr_int rfl (aX_ok h1)
  have f1 := aX_fx h1
  have e1 : S1 1000 = X := (f1 1000 (by omega)).trans e0
  have l1 : a_len S1 1000 = len := by
    show (S1 1001 0).toNatClampNeg = len
    rw [f1 1001 (by omega), eN, hN, tc_n (by omega)]
  have g1 : ∀ j, a_get S1 1000 j = X j := fun j => by show S1 1000 j = X j; rw [e1]
  simp only [x_L_law_191, x_L_law_195, x_L_law_199, x_L_law_202, x_L_law_1113, n1_, n2_, n3_, n4_, n5_, l0, g0, l1, g1, ain (show i + 1 < len by omega) (show len ≤ 2147483648 by omega), ain (show i + 2 < len by omega) (show len ≤ 2147483648 by omega), ain (show i + 3 < len by omega) (show len ≤ 2147483648 by omega), ain (show i + 4 < len by omega) (show len ≤ 2147483648 by omega), tc_n (show i + 1 < 2147483648 by omega), tc_n (show i + 2 < 2147483648 by omega), tc_n (show i + 3 < 2147483648 by omega), tc_n (show i + 4 < 2147483648 by omega), a_cls_0, a_cls_34, h1, h2, eq_self_i, cmp_self, a_push_s, a_push_n, true_and, and_true, true_implies, false_implies, implies_true, not_true_eq_false, not_false_eq_true, e_10, e_01, e_11, e_00, or_true, true_or, or_false, false_or, and_self, false_and, and_false, Bool.false_eq_true, if_true, if_false]
  exact hc S2 G2 h3
theorem lw_2 {X N : Nat → Int32} {S : aS} {G : aG} {len i : Nat} {Q : aQ} (hI : InvE X N S G) (hl : len ≤ 2560) (hN : N 0 = nI len) (hi : i + 5 ≤ len) (hc : ∀ S2 G2, InvE X N S2 G2 → aX mL_law 18 [.ref 1000, .ref 0, .ref 34, .int (nI (i + 5))] [] S2 G2 Q) : aX mL_law 204 [.ref 1000, .ref 0, .ref 34, .int (nI i)] [] S G Q := by
  have e0 : S 1000 = X := by obtain ⟨w, h, T, nt, nd, b0, b1, ns, hh⟩ := hI; exact hh.2.2.2.2.2.2.1
  have eN : S 1001 = N := by obtain ⟨w, h, T, nt, nd, b0, b1, ns, hh⟩ := hI; exact hh.2.2.2.2.2.2.2
  have l0 : a_len S 1000 = len := by
    show (S 1001 0).toNatClampNeg = len
    rw [eN, hN, tc_n (by omega)]
  have g0 : ∀ j, a_get S 1000 j = X j := fun j => by show S 1000 j = X j; rw [e0]
  have n1_ : nI i + 1 = nI (i + 1) := nI_1 i
  have n2_ : nI i + 2 = nI (i + 2) := nI_add i 2
  have n3_ : nI i + 3 = nI (i + 3) := nI_add i 3
  have n4_ : nI i + 4 = nI (i + 4) := nI_add i 4
  have n5_ : nI i + 5 = nI (i + 5) := nI_add i 5
  obtain ⟨r, S1, G1, S2, G2, h1, h2, h3⟩ := p_fault hI 
  obtain ⟨x, rfl⟩ := okr_int rfl (aX_ok h1)
  have f1 := aX_fx h1
  have e1 : S1 1000 = X := (f1 1000 (by omega)).trans e0
  have l1 : a_len S1 1000 = len := by
    show (S1 1001 0).toNatClampNeg = len
    rw [f1 1001 (by omega), eN, hN, tc_n (by omega)]
  have g1 : ∀ j, a_get S1 1000 j = X j := fun j => by show S1 1000 j = X j; rw [e1]
  simp only [x_L_law_204, x_L_law_208, x_L_law_212, x_L_law_215, x_L_law_1113, n1_, n2_, n3_, n4_, n5_, l0, g0, l1, g1, ain (show i + 1 < len by omega) (show len ≤ 2147483648 by omega), ain (show i + 2 < len by omega) (show len ≤ 2147483648 by omega), ain (show i + 3 < len by omega) (show len ≤ 2147483648 by omega), ain (show i + 4 < len by omega) (show len ≤ 2147483648 by omega), tc_n (show i + 1 < 2147483648 by omega), tc_n (show i + 2 < 2147483648 by omega), tc_n (show i + 3 < 2147483648 by omega), tc_n (show i + 4 < 2147483648 by omega), a_cls_0, a_cls_34, h1, h2, eq_self_i, cmp_self, a_push_s, a_push_n, true_and, and_true, true_implies, false_implies, implies_true, not_true_eq_false, not_false_eq_true, e_10, e_01, e_11, e_00, or_true, true_or, or_false, false_or, and_self, false_and, and_false, Bool.false_eq_true, if_true, if_false]
  exact hc S2 G2 h3
theorem lw_3 {X N : Nat → Int32} {S : aS} {G : aG} {len i : Nat} {Q : aQ} (hI : InvE X N S G) (hl : len ≤ 2560) (hN : N 0 = nI len) (hi : i + 5 ≤ len) (hc : ∀ S2 G2, InvE X N S2 G2 → aX mL_law 18 [.ref 1000, .ref 0, .ref 34, .int (nI (i + 5))] [] S2 G2 Q) : aX mL_law 217 [.ref 1000, .ref 0, .ref 34, .int (nI i)] [] S G Q := by
  have e0 : S 1000 = X := by obtain ⟨w, h, T, nt, nd, b0, b1, ns, hh⟩ := hI; exact hh.2.2.2.2.2.2.1
  have eN : S 1001 = N := by obtain ⟨w, h, T, nt, nd, b0, b1, ns, hh⟩ := hI; exact hh.2.2.2.2.2.2.2
  have l0 : a_len S 1000 = len := by
    show (S 1001 0).toNatClampNeg = len
    rw [eN, hN, tc_n (by omega)]
  have g0 : ∀ j, a_get S 1000 j = X j := fun j => by show S 1000 j = X j; rw [e0]
  have n1_ : nI i + 1 = nI (i + 1) := nI_1 i
  have n2_ : nI i + 2 = nI (i + 2) := nI_add i 2
  have n3_ : nI i + 3 = nI (i + 3) := nI_add i 3
  have n4_ : nI i + 4 = nI (i + 4) := nI_add i 4
  have n5_ : nI i + 5 = nI (i + 5) := nI_add i 5
  obtain ⟨r, S1, G1, S2, G2, h1, h2, h3⟩ := p_leaf hI 
  obtain ⟨x, rfl⟩ := okr_int rfl (aX_ok h1)
  have f1 := aX_fx h1
  have e1 : S1 1000 = X := (f1 1000 (by omega)).trans e0
  have l1 : a_len S1 1000 = len := by
    show (S1 1001 0).toNatClampNeg = len
    rw [f1 1001 (by omega), eN, hN, tc_n (by omega)]
  have g1 : ∀ j, a_get S1 1000 j = X j := fun j => by show S1 1000 j = X j; rw [e1]
  simp only [x_L_law_217, x_L_law_221, x_L_law_225, x_L_law_228, x_L_law_1113, n1_, n2_, n3_, n4_, n5_, l0, g0, l1, g1, ain (show i + 1 < len by omega) (show len ≤ 2147483648 by omega), ain (show i + 2 < len by omega) (show len ≤ 2147483648 by omega), ain (show i + 3 < len by omega) (show len ≤ 2147483648 by omega), ain (show i + 4 < len by omega) (show len ≤ 2147483648 by omega), tc_n (show i + 1 < 2147483648 by omega), tc_n (show i + 2 < 2147483648 by omega), tc_n (show i + 3 < 2147483648 by omega), tc_n (show i + 4 < 2147483648 by omega), a_cls_0, a_cls_34, h1, h2, eq_self_i, cmp_self, a_push_s, a_push_n, true_and, and_true, true_implies, false_implies, implies_true, not_true_eq_false, not_false_eq_true, e_10, e_01, e_11, e_00, or_true, true_or, or_false, false_or, and_self, false_and, and_false, Bool.false_eq_true, if_true, if_false]
  exact hc S2 G2 h3
theorem lw_4 {X N : Nat → Int32} {S : aS} {G : aG} {len i : Nat} {Q : aQ} (hI : InvE X N S G) (hl : len ≤ 2560) (hN : N 0 = nI len) (hi : i + 5 ≤ len) (hc : ∀ S2 G2, InvE X N S2 G2 → aX mL_law 18 [.ref 1000, .ref 0, .ref 34, .int (nI (i + 5))] [] S2 G2 Q) : aX mL_law 230 [.ref 1000, .ref 0, .ref 34, .int (nI i)] [] S G Q := by
  have e0 : S 1000 = X := by obtain ⟨w, h, T, nt, nd, b0, b1, ns, hh⟩ := hI; exact hh.2.2.2.2.2.2.1
  have eN : S 1001 = N := by obtain ⟨w, h, T, nt, nd, b0, b1, ns, hh⟩ := hI; exact hh.2.2.2.2.2.2.2
  have l0 : a_len S 1000 = len := by
    show (S 1001 0).toNatClampNeg = len
    rw [eN, hN, tc_n (by omega)]
  have g0 : ∀ j, a_get S 1000 j = X j := fun j => by show S 1000 j = X j; rw [e0]
  have n1_ : nI i + 1 = nI (i + 1) := nI_1 i
  have n2_ : nI i + 2 = nI (i + 2) := nI_add i 2
  have n3_ : nI i + 3 = nI (i + 3) := nI_add i 3
  have n4_ : nI i + 4 = nI (i + 4) := nI_add i 4
  have n5_ : nI i + 5 = nI (i + 5) := nI_add i 5
  obtain ⟨r, S1, G1, S2, G2, h1, h2, h3⟩ := p_about hI (X (i + 1))
  obtain ⟨x, rfl⟩ := okr_int rfl (aX_ok h1)
  have f1 := aX_fx h1
  have e1 : S1 1000 = X := (f1 1000 (by omega)).trans e0
  have l1 : a_len S1 1000 = len := by
    show (S1 1001 0).toNatClampNeg = len
    rw [f1 1001 (by omega), eN, hN, tc_n (by omega)]
  have g1 : ∀ j, a_get S1 1000 j = X j := fun j => by show S1 1000 j = X j; rw [e1]
  simp only [x_L_law_230, x_L_law_239, x_L_law_248, x_L_law_251, x_L_law_1113, n1_, n2_, n3_, n4_, n5_, l0, g0, l1, g1, ain (show i + 1 < len by omega) (show len ≤ 2147483648 by omega), ain (show i + 2 < len by omega) (show len ≤ 2147483648 by omega), ain (show i + 3 < len by omega) (show len ≤ 2147483648 by omega), ain (show i + 4 < len by omega) (show len ≤ 2147483648 by omega), tc_n (show i + 1 < 2147483648 by omega), tc_n (show i + 2 < 2147483648 by omega), tc_n (show i + 3 < 2147483648 by omega), tc_n (show i + 4 < 2147483648 by omega), a_cls_0, a_cls_34, h1, h2, eq_self_i, cmp_self, a_push_s, a_push_n, true_and, and_true, true_implies, false_implies, implies_true, not_true_eq_false, not_false_eq_true, e_10, e_01, e_11, e_00, or_true, true_or, or_false, false_or, and_self, false_and, and_false, Bool.false_eq_true, if_true, if_false]
  exact hc S2 G2 h3
theorem lw_5 {X N : Nat → Int32} {S : aS} {G : aG} {len i : Nat} {Q : aQ} (hI : InvE X N S G) (hl : len ≤ 2560) (hN : N 0 = nI len) (hi : i + 5 ≤ len) (hc : ∀ S2 G2, InvE X N S2 G2 → aX mL_law 18 [.ref 1000, .ref 0, .ref 34, .int (nI (i + 5))] [] S2 G2 Q) : aX mL_law 253 [.ref 1000, .ref 0, .ref 34, .int (nI i)] [] S G Q := by
  have e0 : S 1000 = X := by obtain ⟨w, h, T, nt, nd, b0, b1, ns, hh⟩ := hI; exact hh.2.2.2.2.2.2.1
  have eN : S 1001 = N := by obtain ⟨w, h, T, nt, nd, b0, b1, ns, hh⟩ := hI; exact hh.2.2.2.2.2.2.2
  have l0 : a_len S 1000 = len := by
    show (S 1001 0).toNatClampNeg = len
    rw [eN, hN, tc_n (by omega)]
  have g0 : ∀ j, a_get S 1000 j = X j := fun j => by show S 1000 j = X j; rw [e0]
  have n1_ : nI i + 1 = nI (i + 1) := nI_1 i
  have n2_ : nI i + 2 = nI (i + 2) := nI_add i 2
  have n3_ : nI i + 3 = nI (i + 3) := nI_add i 3
  have n4_ : nI i + 4 = nI (i + 4) := nI_add i 4
  have n5_ : nI i + 5 = nI (i + 5) := nI_add i 5
  obtain ⟨r, S1, G1, S2, G2, h1, h2, h3⟩ := p_grey hI (X (i + 1)) (X (i + 2))
  obtain ⟨x, rfl⟩ := okr_int rfl (aX_ok h1)
  have f1 := aX_fx h1
  have e1 : S1 1000 = X := (f1 1000 (by omega)).trans e0
  have l1 : a_len S1 1000 = len := by
    show (S1 1001 0).toNatClampNeg = len
    rw [f1 1001 (by omega), eN, hN, tc_n (by omega)]
  have g1 : ∀ j, a_get S1 1000 j = X j := fun j => by show S1 1000 j = X j; rw [e1]
  simp only [x_L_law_253, x_L_law_267, x_L_law_281, x_L_law_284, x_L_law_1113, n1_, n2_, n3_, n4_, n5_, l0, g0, l1, g1, ain (show i + 1 < len by omega) (show len ≤ 2147483648 by omega), ain (show i + 2 < len by omega) (show len ≤ 2147483648 by omega), ain (show i + 3 < len by omega) (show len ≤ 2147483648 by omega), ain (show i + 4 < len by omega) (show len ≤ 2147483648 by omega), tc_n (show i + 1 < 2147483648 by omega), tc_n (show i + 2 < 2147483648 by omega), tc_n (show i + 3 < 2147483648 by omega), tc_n (show i + 4 < 2147483648 by omega), a_cls_0, a_cls_34, h1, h2, eq_self_i, cmp_self, a_push_s, a_push_n, true_and, and_true, true_implies, false_implies, implies_true, not_true_eq_false, not_false_eq_true, e_10, e_01, e_11, e_00, or_true, true_or, or_false, false_or, and_self, false_and, and_false, Bool.false_eq_true, if_true, if_false]
  exact hc S2 G2 h3
theorem lw_6 {X N : Nat → Int32} {S : aS} {G : aG} {len i : Nat} {Q : aQ} (hI : InvE X N S G) (hl : len ≤ 2560) (hN : N 0 = nI len) (hi : i + 5 ≤ len) (hc : ∀ S2 G2, InvE X N S2 G2 → aX mL_law 18 [.ref 1000, .ref 0, .ref 34, .int (nI (i + 5))] [] S2 G2 Q) : aX mL_law 286 [.ref 1000, .ref 0, .ref 34, .int (nI i)] [] S G Q := by
  have e0 : S 1000 = X := by obtain ⟨w, h, T, nt, nd, b0, b1, ns, hh⟩ := hI; exact hh.2.2.2.2.2.2.1
  have eN : S 1001 = N := by obtain ⟨w, h, T, nt, nd, b0, b1, ns, hh⟩ := hI; exact hh.2.2.2.2.2.2.2
  have l0 : a_len S 1000 = len := by
    show (S 1001 0).toNatClampNeg = len
    rw [eN, hN, tc_n (by omega)]
  have g0 : ∀ j, a_get S 1000 j = X j := fun j => by show S 1000 j = X j; rw [e0]
  have n1_ : nI i + 1 = nI (i + 1) := nI_1 i
  have n2_ : nI i + 2 = nI (i + 2) := nI_add i 2
  have n3_ : nI i + 3 = nI (i + 3) := nI_add i 3
  have n4_ : nI i + 4 = nI (i + 4) := nI_add i 4
  have n5_ : nI i + 5 = nI (i + 5) := nI_add i 5
  obtain ⟨r, S1, G1, S2, G2, h1, h2, h3⟩ := p_shows hI (X (i + 1))
  obtain ⟨x, rfl⟩ := okr_int rfl (aX_ok h1)
  have f1 := aX_fx h1
  have e1 : S1 1000 = X := (f1 1000 (by omega)).trans e0
  have l1 : a_len S1 1000 = len := by
    show (S1 1001 0).toNatClampNeg = len
    rw [f1 1001 (by omega), eN, hN, tc_n (by omega)]
  have g1 : ∀ j, a_get S1 1000 j = X j := fun j => by show S1 1000 j = X j; rw [e1]
  simp only [x_L_law_286, x_L_law_295, x_L_law_304, x_L_law_307, x_L_law_1113, n1_, n2_, n3_, n4_, n5_, l0, g0, l1, g1, ain (show i + 1 < len by omega) (show len ≤ 2147483648 by omega), ain (show i + 2 < len by omega) (show len ≤ 2147483648 by omega), ain (show i + 3 < len by omega) (show len ≤ 2147483648 by omega), ain (show i + 4 < len by omega) (show len ≤ 2147483648 by omega), tc_n (show i + 1 < 2147483648 by omega), tc_n (show i + 2 < 2147483648 by omega), tc_n (show i + 3 < 2147483648 by omega), tc_n (show i + 4 < 2147483648 by omega), a_cls_0, a_cls_34, h1, h2, eq_self_i, cmp_self, a_push_s, a_push_n, true_and, and_true, true_implies, false_implies, implies_true, not_true_eq_false, not_false_eq_true, e_10, e_01, e_11, e_00, or_true, true_or, or_false, false_or, and_self, false_and, and_false, Bool.false_eq_true, if_true, if_false]
  exact hc S2 G2 h3
theorem lw_7 {X N : Nat → Int32} {S : aS} {G : aG} {len i : Nat} {Q : aQ} (hI : InvE X N S G) (hl : len ≤ 2560) (hN : N 0 = nI len) (hi : i + 5 ≤ len) (hc : ∀ S2 G2, InvE X N S2 G2 → aX mL_law 18 [.ref 1000, .ref 0, .ref 34, .int (nI (i + 5))] [] S2 G2 Q) : aX mL_law 309 [.ref 1000, .ref 0, .ref 34, .int (nI i)] [] S G Q := by
  have e0 : S 1000 = X := by obtain ⟨w, h, T, nt, nd, b0, b1, ns, hh⟩ := hI; exact hh.2.2.2.2.2.2.1
  have eN : S 1001 = N := by obtain ⟨w, h, T, nt, nd, b0, b1, ns, hh⟩ := hI; exact hh.2.2.2.2.2.2.2
  have l0 : a_len S 1000 = len := by
    show (S 1001 0).toNatClampNeg = len
    rw [eN, hN, tc_n (by omega)]
  have g0 : ∀ j, a_get S 1000 j = X j := fun j => by show S 1000 j = X j; rw [e0]
  have n1_ : nI i + 1 = nI (i + 1) := nI_1 i
  have n2_ : nI i + 2 = nI (i + 2) := nI_add i 2
  have n3_ : nI i + 3 = nI (i + 3) := nI_add i 3
  have n4_ : nI i + 4 = nI (i + 4) := nI_add i 4
  have n5_ : nI i + 5 = nI (i + 5) := nI_add i 5
  obtain ⟨r, S1, G1, S2, G2, h1, h2, h3⟩ := p_window hI (X (i + 1)) (X (i + 2))
  obtain ⟨x, rfl⟩ := okr_int rfl (aX_ok h1)
  have f1 := aX_fx h1
  have e1 : S1 1000 = X := (f1 1000 (by omega)).trans e0
  have l1 : a_len S1 1000 = len := by
    show (S1 1001 0).toNatClampNeg = len
    rw [f1 1001 (by omega), eN, hN, tc_n (by omega)]
  have g1 : ∀ j, a_get S1 1000 j = X j := fun j => by show S1 1000 j = X j; rw [e1]
  simp only [x_L_law_309, x_L_law_323, x_L_law_337, x_L_law_340, x_L_law_1113, n1_, n2_, n3_, n4_, n5_, l0, g0, l1, g1, ain (show i + 1 < len by omega) (show len ≤ 2147483648 by omega), ain (show i + 2 < len by omega) (show len ≤ 2147483648 by omega), ain (show i + 3 < len by omega) (show len ≤ 2147483648 by omega), ain (show i + 4 < len by omega) (show len ≤ 2147483648 by omega), tc_n (show i + 1 < 2147483648 by omega), tc_n (show i + 2 < 2147483648 by omega), tc_n (show i + 3 < 2147483648 by omega), tc_n (show i + 4 < 2147483648 by omega), a_cls_0, a_cls_34, h1, h2, eq_self_i, cmp_self, a_push_s, a_push_n, true_and, and_true, true_implies, false_implies, implies_true, not_true_eq_false, not_false_eq_true, e_10, e_01, e_11, e_00, or_true, true_or, or_false, false_or, and_self, false_and, and_false, Bool.false_eq_true, if_true, if_false]
  exact hc S2 G2 h3
theorem lw_8 {X N : Nat → Int32} {S : aS} {G : aG} {len i : Nat} {Q : aQ} (hI : InvE X N S G) (hl : len ≤ 2560) (hN : N 0 = nI len) (hi : i + 5 ≤ len) (hc : ∀ S2 G2, InvE X N S2 G2 → aX mL_law 18 [.ref 1000, .ref 0, .ref 34, .int (nI (i + 5))] [] S2 G2 Q) : aX mL_law 342 [.ref 1000, .ref 0, .ref 34, .int (nI i)] [] S G Q := by
  have e0 : S 1000 = X := by obtain ⟨w, h, T, nt, nd, b0, b1, ns, hh⟩ := hI; exact hh.2.2.2.2.2.2.1
  have eN : S 1001 = N := by obtain ⟨w, h, T, nt, nd, b0, b1, ns, hh⟩ := hI; exact hh.2.2.2.2.2.2.2
  have l0 : a_len S 1000 = len := by
    show (S 1001 0).toNatClampNeg = len
    rw [eN, hN, tc_n (by omega)]
  have g0 : ∀ j, a_get S 1000 j = X j := fun j => by show S 1000 j = X j; rw [e0]
  have n1_ : nI i + 1 = nI (i + 1) := nI_1 i
  have n2_ : nI i + 2 = nI (i + 2) := nI_add i 2
  have n3_ : nI i + 3 = nI (i + 3) := nI_add i 3
  have n4_ : nI i + 4 = nI (i + 4) := nI_add i 4
  have n5_ : nI i + 5 = nI (i + 5) := nI_add i 5
  by_cases z : X (i + 3) = 0
  · obtain ⟨r, S1, G1, S2, G2, h1, h2, h3⟩ := p_spread hI (X (i + 1)) (X (i + 2)) 0
    obtain ⟨x, rfl⟩ := okr_int rfl (aX_ok h1)
    have f1 := aX_fx h1
    have e1 : S1 1000 = X := (f1 1000 (by omega)).trans e0
    have l1 : a_len S1 1000 = len := by
      show (S1 1001 0).toNatClampNeg = len
      rw [f1 1001 (by omega), eN, hN, tc_n (by omega)]
    have g1 : ∀ j, a_get S1 1000 j = X j := fun j => by show S1 1000 j = X j; rw [e1]
    simp only [x_L_law_342, x_L_law_361, x_L_law_365, x_L_law_366, x_L_law_369, x_L_law_388, x_L_law_392, x_L_law_393, x_L_law_396, x_L_law_399, x_L_law_1113, n1_, n2_, n3_, n4_, n5_, l0, g0, l1, g1, ain (show i + 1 < len by omega) (show len ≤ 2147483648 by omega), ain (show i + 2 < len by omega) (show len ≤ 2147483648 by omega), ain (show i + 3 < len by omega) (show len ≤ 2147483648 by omega), ain (show i + 4 < len by omega) (show len ≤ 2147483648 by omega), tc_n (show i + 1 < 2147483648 by omega), tc_n (show i + 2 < 2147483648 by omega), tc_n (show i + 3 < 2147483648 by omega), tc_n (show i + 4 < 2147483648 by omega), a_cls_0, a_cls_34, z, h1, h2, eq_self_i, cmp_self, a_push_s, a_push_n, true_and, and_true, true_implies, false_implies, implies_true, not_true_eq_false, not_false_eq_true, e_10, e_01, e_11, e_00, or_true, true_or, or_false, false_or, and_self, false_and, and_false, Bool.false_eq_true, if_true, if_false]
    exact hc S2 G2 h3
  · obtain ⟨r, S1, G1, S2, G2, h1, h2, h3⟩ := p_spread hI (X (i + 1)) (X (i + 2)) 1
    obtain ⟨x, rfl⟩ := okr_int rfl (aX_ok h1)
    have f1 := aX_fx h1
    have e1 : S1 1000 = X := (f1 1000 (by omega)).trans e0
    have l1 : a_len S1 1000 = len := by
      show (S1 1001 0).toNatClampNeg = len
      rw [f1 1001 (by omega), eN, hN, tc_n (by omega)]
    have g1 : ∀ j, a_get S1 1000 j = X j := fun j => by show S1 1000 j = X j; rw [e1]
    simp only [x_L_law_342, x_L_law_361, x_L_law_365, x_L_law_366, x_L_law_369, x_L_law_388, x_L_law_392, x_L_law_393, x_L_law_396, x_L_law_399, x_L_law_1113, n1_, n2_, n3_, n4_, n5_, l0, g0, l1, g1, ain (show i + 1 < len by omega) (show len ≤ 2147483648 by omega), ain (show i + 2 < len by omega) (show len ≤ 2147483648 by omega), ain (show i + 3 < len by omega) (show len ≤ 2147483648 by omega), ain (show i + 4 < len by omega) (show len ≤ 2147483648 by omega), tc_n (show i + 1 < 2147483648 by omega), tc_n (show i + 2 < 2147483648 by omega), tc_n (show i + 3 < 2147483648 by omega), tc_n (show i + 4 < 2147483648 by omega), a_cls_0, a_cls_34, z, h1, h2, eq_self_i, cmp_self, a_push_s, a_push_n, true_and, and_true, true_implies, false_implies, implies_true, not_true_eq_false, not_false_eq_true, e_10, e_01, e_11, e_00, or_true, true_or, or_false, false_or, and_self, false_and, and_false, Bool.false_eq_true, if_true, if_false]
    exact hc S2 G2 h3
theorem lw_9 {X N : Nat → Int32} {S : aS} {G : aG} {len i : Nat} {Q : aQ} (hI : InvE X N S G) (hl : len ≤ 2560) (hN : N 0 = nI len) (hi : i + 5 ≤ len) (hc : ∀ S2 G2, InvE X N S2 G2 → aX mL_law 18 [.ref 1000, .ref 0, .ref 34, .int (nI (i + 5))] [] S2 G2 Q) : aX mL_law 401 [.ref 1000, .ref 0, .ref 34, .int (nI i)] [] S G Q := by
  have e0 : S 1000 = X := by obtain ⟨w, h, T, nt, nd, b0, b1, ns, hh⟩ := hI; exact hh.2.2.2.2.2.2.1
  have eN : S 1001 = N := by obtain ⟨w, h, T, nt, nd, b0, b1, ns, hh⟩ := hI; exact hh.2.2.2.2.2.2.2
  have l0 : a_len S 1000 = len := by
    show (S 1001 0).toNatClampNeg = len
    rw [eN, hN, tc_n (by omega)]
  have g0 : ∀ j, a_get S 1000 j = X j := fun j => by show S 1000 j = X j; rw [e0]
  have n1_ : nI i + 1 = nI (i + 1) := nI_1 i
  have n2_ : nI i + 2 = nI (i + 2) := nI_add i 2
  have n3_ : nI i + 3 = nI (i + 3) := nI_add i 3
  have n4_ : nI i + 4 = nI (i + 4) := nI_add i 4
  have n5_ : nI i + 5 = nI (i + 5) := nI_add i 5
  obtain ⟨r, S1, G1, S2, G2, h1, h2, h3⟩ := p_mark hI (X (i + 1))
  obtain ⟨x, rfl⟩ := okr_int rfl (aX_ok h1)
  have f1 := aX_fx h1
  have e1 : S1 1000 = X := (f1 1000 (by omega)).trans e0
  have l1 : a_len S1 1000 = len := by
    show (S1 1001 0).toNatClampNeg = len
    rw [f1 1001 (by omega), eN, hN, tc_n (by omega)]
  have g1 : ∀ j, a_get S1 1000 j = X j := fun j => by show S1 1000 j = X j; rw [e1]
  simp only [x_L_law_401, x_L_law_410, x_L_law_419, x_L_law_422, x_L_law_1113, n1_, n2_, n3_, n4_, n5_, l0, g0, l1, g1, ain (show i + 1 < len by omega) (show len ≤ 2147483648 by omega), ain (show i + 2 < len by omega) (show len ≤ 2147483648 by omega), ain (show i + 3 < len by omega) (show len ≤ 2147483648 by omega), ain (show i + 4 < len by omega) (show len ≤ 2147483648 by omega), tc_n (show i + 1 < 2147483648 by omega), tc_n (show i + 2 < 2147483648 by omega), tc_n (show i + 3 < 2147483648 by omega), tc_n (show i + 4 < 2147483648 by omega), a_cls_0, a_cls_34, h1, h2, eq_self_i, cmp_self, a_push_s, a_push_n, true_and, and_true, true_implies, false_implies, implies_true, not_true_eq_false, not_false_eq_true, e_10, e_01, e_11, e_00, or_true, true_or, or_false, false_or, and_self, false_and, and_false, Bool.false_eq_true, if_true, if_false]
  exact hc S2 G2 h3
theorem lw_10 {X N : Nat → Int32} {S : aS} {G : aG} {len i : Nat} {Q : aQ} (hI : InvE X N S G) (hl : len ≤ 2560) (hN : N 0 = nI len) (hi : i + 5 ≤ len) (hc : ∀ S2 G2, InvE X N S2 G2 → aX mL_law 18 [.ref 1000, .ref 0, .ref 34, .int (nI (i + 5))] [] S2 G2 Q) : aX mL_law 424 [.ref 1000, .ref 0, .ref 34, .int (nI i)] [] S G Q := by
  have e0 : S 1000 = X := by obtain ⟨w, h, T, nt, nd, b0, b1, ns, hh⟩ := hI; exact hh.2.2.2.2.2.2.1
  have eN : S 1001 = N := by obtain ⟨w, h, T, nt, nd, b0, b1, ns, hh⟩ := hI; exact hh.2.2.2.2.2.2.2
  have l0 : a_len S 1000 = len := by
    show (S 1001 0).toNatClampNeg = len
    rw [eN, hN, tc_n (by omega)]
  have g0 : ∀ j, a_get S 1000 j = X j := fun j => by show S 1000 j = X j; rw [e0]
  have n1_ : nI i + 1 = nI (i + 1) := nI_1 i
  have n2_ : nI i + 2 = nI (i + 2) := nI_add i 2
  have n3_ : nI i + 3 = nI (i + 3) := nI_add i 3
  have n4_ : nI i + 4 = nI (i + 4) := nI_add i 4
  have n5_ : nI i + 5 = nI (i + 5) := nI_add i 5
  obtain ⟨r, S1, G1, S2, G2, h1, h2, h3⟩ := p_under hI (X (i + 1))
  obtain ⟨x, rfl⟩ := okr_int rfl (aX_ok h1)
  have f1 := aX_fx h1
  have e1 : S1 1000 = X := (f1 1000 (by omega)).trans e0
  have l1 : a_len S1 1000 = len := by
    show (S1 1001 0).toNatClampNeg = len
    rw [f1 1001 (by omega), eN, hN, tc_n (by omega)]
  have g1 : ∀ j, a_get S1 1000 j = X j := fun j => by show S1 1000 j = X j; rw [e1]
  simp only [x_L_law_424, x_L_law_433, x_L_law_442, x_L_law_445, x_L_law_1113, n1_, n2_, n3_, n4_, n5_, l0, g0, l1, g1, ain (show i + 1 < len by omega) (show len ≤ 2147483648 by omega), ain (show i + 2 < len by omega) (show len ≤ 2147483648 by omega), ain (show i + 3 < len by omega) (show len ≤ 2147483648 by omega), ain (show i + 4 < len by omega) (show len ≤ 2147483648 by omega), tc_n (show i + 1 < 2147483648 by omega), tc_n (show i + 2 < 2147483648 by omega), tc_n (show i + 3 < 2147483648 by omega), tc_n (show i + 4 < 2147483648 by omega), a_cls_0, a_cls_34, h1, h2, eq_self_i, cmp_self, a_push_s, a_push_n, true_and, and_true, true_implies, false_implies, implies_true, not_true_eq_false, not_false_eq_true, e_10, e_01, e_11, e_00, or_true, true_or, or_false, false_or, and_self, false_and, and_false, Bool.false_eq_true, if_true, if_false]
  exact hc S2 G2 h3
theorem lw_11 {X N : Nat → Int32} {S : aS} {G : aG} {len i : Nat} {Q : aQ} (hI : InvE X N S G) (hl : len ≤ 2560) (hN : N 0 = nI len) (hi : i + 5 ≤ len) (hc : ∀ S2 G2, InvE X N S2 G2 → aX mL_law 18 [.ref 1000, .ref 0, .ref 34, .int (nI (i + 5))] [] S2 G2 Q) : aX mL_law 447 [.ref 1000, .ref 0, .ref 34, .int (nI i)] [] S G Q := by
  have e0 : S 1000 = X := by obtain ⟨w, h, T, nt, nd, b0, b1, ns, hh⟩ := hI; exact hh.2.2.2.2.2.2.1
  have eN : S 1001 = N := by obtain ⟨w, h, T, nt, nd, b0, b1, ns, hh⟩ := hI; exact hh.2.2.2.2.2.2.2
  have l0 : a_len S 1000 = len := by
    show (S 1001 0).toNatClampNeg = len
    rw [eN, hN, tc_n (by omega)]
  have g0 : ∀ j, a_get S 1000 j = X j := fun j => by show S 1000 j = X j; rw [e0]
  have n1_ : nI i + 1 = nI (i + 1) := nI_1 i
  have n2_ : nI i + 2 = nI (i + 2) := nI_add i 2
  have n3_ : nI i + 3 = nI (i + 3) := nI_add i 3
  have n4_ : nI i + 4 = nI (i + 4) := nI_add i 4
  have n5_ : nI i + 5 = nI (i + 5) := nI_add i 5
  obtain ⟨r, S1, G1, S2, G2, h1, h2, h3⟩ := p_cleaned hI (X (i + 1))
  obtain ⟨x, rfl⟩ := okr_int rfl (aX_ok h1)
  have f1 := aX_fx h1
  have e1 : S1 1000 = X := (f1 1000 (by omega)).trans e0
  have l1 : a_len S1 1000 = len := by
    show (S1 1001 0).toNatClampNeg = len
    rw [f1 1001 (by omega), eN, hN, tc_n (by omega)]
  have g1 : ∀ j, a_get S1 1000 j = X j := fun j => by show S1 1000 j = X j; rw [e1]
  simp only [x_L_law_447, x_L_law_456, x_L_law_465, x_L_law_468, x_L_law_1113, n1_, n2_, n3_, n4_, n5_, l0, g0, l1, g1, ain (show i + 1 < len by omega) (show len ≤ 2147483648 by omega), ain (show i + 2 < len by omega) (show len ≤ 2147483648 by omega), ain (show i + 3 < len by omega) (show len ≤ 2147483648 by omega), ain (show i + 4 < len by omega) (show len ≤ 2147483648 by omega), tc_n (show i + 1 < 2147483648 by omega), tc_n (show i + 2 < 2147483648 by omega), tc_n (show i + 3 < 2147483648 by omega), tc_n (show i + 4 < 2147483648 by omega), a_cls_0, a_cls_34, h1, h2, eq_self_i, cmp_self, a_push_s, a_push_n, true_and, and_true, true_implies, false_implies, implies_true, not_true_eq_false, not_false_eq_true, e_10, e_01, e_11, e_00, or_true, true_or, or_false, false_or, and_self, false_and, and_false, Bool.false_eq_true, if_true, if_false]
  exact hc S2 G2 h3
theorem lw_12 {X N : Nat → Int32} {S : aS} {G : aG} {len i : Nat} {Q : aQ} (hI : InvE X N S G) (hl : len ≤ 2560) (hN : N 0 = nI len) (hi : i + 5 ≤ len) (hc : ∀ S2 G2, InvE X N S2 G2 → aX mL_law 18 [.ref 1000, .ref 0, .ref 34, .int (nI (i + 5))] [] S2 G2 Q) : aX mL_law 470 [.ref 1000, .ref 0, .ref 34, .int (nI i)] [] S G Q := by
  have e0 : S 1000 = X := by obtain ⟨w, h, T, nt, nd, b0, b1, ns, hh⟩ := hI; exact hh.2.2.2.2.2.2.1
  have eN : S 1001 = N := by obtain ⟨w, h, T, nt, nd, b0, b1, ns, hh⟩ := hI; exact hh.2.2.2.2.2.2.2
  have l0 : a_len S 1000 = len := by
    show (S 1001 0).toNatClampNeg = len
    rw [eN, hN, tc_n (by omega)]
  have g0 : ∀ j, a_get S 1000 j = X j := fun j => by show S 1000 j = X j; rw [e0]
  have n1_ : nI i + 1 = nI (i + 1) := nI_1 i
  have n2_ : nI i + 2 = nI (i + 2) := nI_add i 2
  have n3_ : nI i + 3 = nI (i + 3) := nI_add i 3
  have n4_ : nI i + 4 = nI (i + 4) := nI_add i 4
  have n5_ : nI i + 5 = nI (i + 5) := nI_add i 5
  obtain ⟨r, S1, G1, S2, G2, h1, h2, h3⟩ := p_paint hI (X (i + 1)) (X (i + 2)) (X (i + 3))
  obtain ⟨x, rfl⟩ := okr_int rfl (aX_ok h1)
  have f1 := aX_fx h1
  have e1 : S1 1000 = X := (f1 1000 (by omega)).trans e0
  have l1 : a_len S1 1000 = len := by
    show (S1 1001 0).toNatClampNeg = len
    rw [f1 1001 (by omega), eN, hN, tc_n (by omega)]
  have g1 : ∀ j, a_get S1 1000 j = X j := fun j => by show S1 1000 j = X j; rw [e1]
  simp only [x_L_law_470, x_L_law_489, x_L_law_508, x_L_law_511, x_L_law_1113, n1_, n2_, n3_, n4_, n5_, l0, g0, l1, g1, ain (show i + 1 < len by omega) (show len ≤ 2147483648 by omega), ain (show i + 2 < len by omega) (show len ≤ 2147483648 by omega), ain (show i + 3 < len by omega) (show len ≤ 2147483648 by omega), ain (show i + 4 < len by omega) (show len ≤ 2147483648 by omega), tc_n (show i + 1 < 2147483648 by omega), tc_n (show i + 2 < 2147483648 by omega), tc_n (show i + 3 < 2147483648 by omega), tc_n (show i + 4 < 2147483648 by omega), a_cls_0, a_cls_34, h1, h2, eq_self_i, cmp_self, a_push_s, a_push_n, true_and, and_true, true_implies, false_implies, implies_true, not_true_eq_false, not_false_eq_true, e_10, e_01, e_11, e_00, or_true, true_or, or_false, false_or, and_self, false_and, and_false, Bool.false_eq_true, if_true, if_false]
  exact hc S2 G2 h3
theorem lw_13 {X N : Nat → Int32} {S : aS} {G : aG} {len i : Nat} {Q : aQ} (hI : InvE X N S G) (hl : len ≤ 2560) (hN : N 0 = nI len) (hi : i + 5 ≤ len) (hc : ∀ S2 G2, InvE X N S2 G2 → aX mL_law 18 [.ref 1000, .ref 0, .ref 34, .int (nI (i + 5))] [] S2 G2 Q) : aX mL_law 513 [.ref 1000, .ref 0, .ref 34, .int (nI i)] [] S G Q := by
  have e0 : S 1000 = X := by obtain ⟨w, h, T, nt, nd, b0, b1, ns, hh⟩ := hI; exact hh.2.2.2.2.2.2.1
  have eN : S 1001 = N := by obtain ⟨w, h, T, nt, nd, b0, b1, ns, hh⟩ := hI; exact hh.2.2.2.2.2.2.2
  have l0 : a_len S 1000 = len := by
    show (S 1001 0).toNatClampNeg = len
    rw [eN, hN, tc_n (by omega)]
  have g0 : ∀ j, a_get S 1000 j = X j := fun j => by show S 1000 j = X j; rw [e0]
  have n1_ : nI i + 1 = nI (i + 1) := nI_1 i
  have n2_ : nI i + 2 = nI (i + 2) := nI_add i 2
  have n3_ : nI i + 3 = nI (i + 3) := nI_add i 3
  have n4_ : nI i + 4 = nI (i + 4) := nI_add i 4
  have n5_ : nI i + 5 = nI (i + 5) := nI_add i 5
  obtain ⟨r, S1, G1, S2, G2, h1, h2, h3⟩ := p_light hI (X (i + 1))
  obtain ⟨x, rfl⟩ := okr_int rfl (aX_ok h1)
  have f1 := aX_fx h1
  have e1 : S1 1000 = X := (f1 1000 (by omega)).trans e0
  have l1 : a_len S1 1000 = len := by
    show (S1 1001 0).toNatClampNeg = len
    rw [f1 1001 (by omega), eN, hN, tc_n (by omega)]
  have g1 : ∀ j, a_get S1 1000 j = X j := fun j => by show S1 1000 j = X j; rw [e1]
  simp only [x_L_law_513, x_L_law_522, x_L_law_531, x_L_law_534, x_L_law_1113, n1_, n2_, n3_, n4_, n5_, l0, g0, l1, g1, ain (show i + 1 < len by omega) (show len ≤ 2147483648 by omega), ain (show i + 2 < len by omega) (show len ≤ 2147483648 by omega), ain (show i + 3 < len by omega) (show len ≤ 2147483648 by omega), ain (show i + 4 < len by omega) (show len ≤ 2147483648 by omega), tc_n (show i + 1 < 2147483648 by omega), tc_n (show i + 2 < 2147483648 by omega), tc_n (show i + 3 < 2147483648 by omega), tc_n (show i + 4 < 2147483648 by omega), a_cls_0, a_cls_34, h1, h2, eq_self_i, cmp_self, a_push_s, a_push_n, true_and, and_true, true_implies, false_implies, implies_true, not_true_eq_false, not_false_eq_true, e_10, e_01, e_11, e_00, or_true, true_or, or_false, false_or, and_self, false_and, and_false, Bool.false_eq_true, if_true, if_false]
  exact hc S2 G2 h3
theorem lw_14 {X N : Nat → Int32} {S : aS} {G : aG} {len i : Nat} {Q : aQ} (hI : InvE X N S G) (hl : len ≤ 2560) (hN : N 0 = nI len) (hi : i + 5 ≤ len) (hc : ∀ S2 G2, InvE X N S2 G2 → aX mL_law 18 [.ref 1000, .ref 0, .ref 34, .int (nI (i + 5))] [] S2 G2 Q) : aX mL_law 536 [.ref 1000, .ref 0, .ref 34, .int (nI i)] [] S G Q := by
  have e0 : S 1000 = X := by obtain ⟨w, h, T, nt, nd, b0, b1, ns, hh⟩ := hI; exact hh.2.2.2.2.2.2.1
  have eN : S 1001 = N := by obtain ⟨w, h, T, nt, nd, b0, b1, ns, hh⟩ := hI; exact hh.2.2.2.2.2.2.2
  have l0 : a_len S 1000 = len := by
    show (S 1001 0).toNatClampNeg = len
    rw [eN, hN, tc_n (by omega)]
  have g0 : ∀ j, a_get S 1000 j = X j := fun j => by show S 1000 j = X j; rw [e0]
  have n1_ : nI i + 1 = nI (i + 1) := nI_1 i
  have n2_ : nI i + 2 = nI (i + 2) := nI_add i 2
  have n3_ : nI i + 3 = nI (i + 3) := nI_add i 3
  have n4_ : nI i + 4 = nI (i + 4) := nI_add i 4
  have n5_ : nI i + 5 = nI (i + 5) := nI_add i 5
  obtain ⟨r, S1, G1, S2, G2, h1, h2, h3⟩ := p_rule hI (X (i + 1)) (X (i + 2)) (X (i + 3))
  obtain ⟨x, rfl⟩ := okr_int rfl (aX_ok h1)
  have f1 := aX_fx h1
  have e1 : S1 1000 = X := (f1 1000 (by omega)).trans e0
  have l1 : a_len S1 1000 = len := by
    show (S1 1001 0).toNatClampNeg = len
    rw [f1 1001 (by omega), eN, hN, tc_n (by omega)]
  have g1 : ∀ j, a_get S1 1000 j = X j := fun j => by show S1 1000 j = X j; rw [e1]
  simp only [x_L_law_536, x_L_law_555, x_L_law_574, x_L_law_577, x_L_law_1113, n1_, n2_, n3_, n4_, n5_, l0, g0, l1, g1, ain (show i + 1 < len by omega) (show len ≤ 2147483648 by omega), ain (show i + 2 < len by omega) (show len ≤ 2147483648 by omega), ain (show i + 3 < len by omega) (show len ≤ 2147483648 by omega), ain (show i + 4 < len by omega) (show len ≤ 2147483648 by omega), tc_n (show i + 1 < 2147483648 by omega), tc_n (show i + 2 < 2147483648 by omega), tc_n (show i + 3 < 2147483648 by omega), tc_n (show i + 4 < 2147483648 by omega), a_cls_0, a_cls_34, h1, h2, eq_self_i, cmp_self, a_push_s, a_push_n, true_and, and_true, true_implies, false_implies, implies_true, not_true_eq_false, not_false_eq_true, e_10, e_01, e_11, e_00, or_true, true_or, or_false, false_or, and_self, false_and, and_false, Bool.false_eq_true, if_true, if_false]
  exact hc S2 G2 h3
theorem lw_15 {X N : Nat → Int32} {S : aS} {G : aG} {len i : Nat} {Q : aQ} (hI : InvE X N S G) (hl : len ≤ 2560) (hN : N 0 = nI len) (hi : i + 5 ≤ len) (hc : ∀ S2 G2, InvE X N S2 G2 → aX mL_law 18 [.ref 1000, .ref 0, .ref 34, .int (nI (i + 5))] [] S2 G2 Q) : aX mL_law 579 [.ref 1000, .ref 0, .ref 34, .int (nI i)] [] S G Q := by
  have e0 : S 1000 = X := by obtain ⟨w, h, T, nt, nd, b0, b1, ns, hh⟩ := hI; exact hh.2.2.2.2.2.2.1
  have eN : S 1001 = N := by obtain ⟨w, h, T, nt, nd, b0, b1, ns, hh⟩ := hI; exact hh.2.2.2.2.2.2.2
  have l0 : a_len S 1000 = len := by
    show (S 1001 0).toNatClampNeg = len
    rw [eN, hN, tc_n (by omega)]
  have g0 : ∀ j, a_get S 1000 j = X j := fun j => by show S 1000 j = X j; rw [e0]
  have n1_ : nI i + 1 = nI (i + 1) := nI_1 i
  have n2_ : nI i + 2 = nI (i + 2) := nI_add i 2
  have n3_ : nI i + 3 = nI (i + 3) := nI_add i 3
  have n4_ : nI i + 4 = nI (i + 4) := nI_add i 4
  have n5_ : nI i + 5 = nI (i + 5) := nI_add i 5
  obtain ⟨r, S1, G1, S2, G2, h1, h2, h3⟩ := p_table hI (X (i + 1)) (X (i + 2))
  obtain ⟨x, rfl⟩ := okr_int rfl (aX_ok h1)
  have f1 := aX_fx h1
  have e1 : S1 1000 = X := (f1 1000 (by omega)).trans e0
  have l1 : a_len S1 1000 = len := by
    show (S1 1001 0).toNatClampNeg = len
    rw [f1 1001 (by omega), eN, hN, tc_n (by omega)]
  have g1 : ∀ j, a_get S1 1000 j = X j := fun j => by show S1 1000 j = X j; rw [e1]
  simp only [x_L_law_579, x_L_law_593, x_L_law_607, x_L_law_610, x_L_law_1113, n1_, n2_, n3_, n4_, n5_, l0, g0, l1, g1, ain (show i + 1 < len by omega) (show len ≤ 2147483648 by omega), ain (show i + 2 < len by omega) (show len ≤ 2147483648 by omega), ain (show i + 3 < len by omega) (show len ≤ 2147483648 by omega), ain (show i + 4 < len by omega) (show len ≤ 2147483648 by omega), tc_n (show i + 1 < 2147483648 by omega), tc_n (show i + 2 < 2147483648 by omega), tc_n (show i + 3 < 2147483648 by omega), tc_n (show i + 4 < 2147483648 by omega), a_cls_0, a_cls_34, h1, h2, eq_self_i, cmp_self, a_push_s, a_push_n, true_and, and_true, true_implies, false_implies, implies_true, not_true_eq_false, not_false_eq_true, e_10, e_01, e_11, e_00, or_true, true_or, or_false, false_or, and_self, false_and, and_false, Bool.false_eq_true, if_true, if_false]
  exact hc S2 G2 h3
theorem lw_16 {X N : Nat → Int32} {S : aS} {G : aG} {len i : Nat} {Q : aQ} (hI : InvE X N S G) (hl : len ≤ 2560) (hN : N 0 = nI len) (hi : i + 5 ≤ len) (hc : ∀ S2 G2, InvE X N S2 G2 → aX mL_law 18 [.ref 1000, .ref 0, .ref 34, .int (nI (i + 5))] [] S2 G2 Q) : aX mL_law 612 [.ref 1000, .ref 0, .ref 34, .int (nI i)] [] S G Q := by
  have e0 : S 1000 = X := by obtain ⟨w, h, T, nt, nd, b0, b1, ns, hh⟩ := hI; exact hh.2.2.2.2.2.2.1
  have eN : S 1001 = N := by obtain ⟨w, h, T, nt, nd, b0, b1, ns, hh⟩ := hI; exact hh.2.2.2.2.2.2.2
  have l0 : a_len S 1000 = len := by
    show (S 1001 0).toNatClampNeg = len
    rw [eN, hN, tc_n (by omega)]
  have g0 : ∀ j, a_get S 1000 j = X j := fun j => by show S 1000 j = X j; rw [e0]
  have n1_ : nI i + 1 = nI (i + 1) := nI_1 i
  have n2_ : nI i + 2 = nI (i + 2) := nI_add i 2
  have n3_ : nI i + 3 = nI (i + 3) := nI_add i 3
  have n4_ : nI i + 4 = nI (i + 4) := nI_add i 4
  have n5_ : nI i + 5 = nI (i + 5) := nI_add i 5
  obtain ⟨r, S1, G1, S2, G2, h1, h2, h3⟩ := p_lay hI (X (i + 1)) (X (i + 2))
  obtain ⟨x, rfl⟩ := okr_int rfl (aX_ok h1)
  have f1 := aX_fx h1
  have e1 : S1 1000 = X := (f1 1000 (by omega)).trans e0
  have l1 : a_len S1 1000 = len := by
    show (S1 1001 0).toNatClampNeg = len
    rw [f1 1001 (by omega), eN, hN, tc_n (by omega)]
  have g1 : ∀ j, a_get S1 1000 j = X j := fun j => by show S1 1000 j = X j; rw [e1]
  simp only [x_L_law_612, x_L_law_626, x_L_law_640, x_L_law_643, x_L_law_1113, n1_, n2_, n3_, n4_, n5_, l0, g0, l1, g1, ain (show i + 1 < len by omega) (show len ≤ 2147483648 by omega), ain (show i + 2 < len by omega) (show len ≤ 2147483648 by omega), ain (show i + 3 < len by omega) (show len ≤ 2147483648 by omega), ain (show i + 4 < len by omega) (show len ≤ 2147483648 by omega), tc_n (show i + 1 < 2147483648 by omega), tc_n (show i + 2 < 2147483648 by omega), tc_n (show i + 3 < 2147483648 by omega), tc_n (show i + 4 < 2147483648 by omega), a_cls_0, a_cls_34, h1, h2, eq_self_i, cmp_self, a_push_s, a_push_n, true_and, and_true, true_implies, false_implies, implies_true, not_true_eq_false, not_false_eq_true, e_10, e_01, e_11, e_00, or_true, true_or, or_false, false_or, and_self, false_and, and_false, Bool.false_eq_true, if_true, if_false]
  exact hc S2 G2 h3
theorem lw_17 {X N : Nat → Int32} {S : aS} {G : aG} {len i : Nat} {Q : aQ} (hI : InvE X N S G) (hl : len ≤ 2560) (hN : N 0 = nI len) (hi : i + 5 ≤ len) (hc : ∀ S2 G2, InvE X N S2 G2 → aX mL_law 18 [.ref 1000, .ref 0, .ref 34, .int (nI (i + 5))] [] S2 G2 Q) : aX mL_law 645 [.ref 1000, .ref 0, .ref 34, .int (nI i)] [] S G Q := by
  have e0 : S 1000 = X := by obtain ⟨w, h, T, nt, nd, b0, b1, ns, hh⟩ := hI; exact hh.2.2.2.2.2.2.1
  have eN : S 1001 = N := by obtain ⟨w, h, T, nt, nd, b0, b1, ns, hh⟩ := hI; exact hh.2.2.2.2.2.2.2
  have l0 : a_len S 1000 = len := by
    show (S 1001 0).toNatClampNeg = len
    rw [eN, hN, tc_n (by omega)]
  have g0 : ∀ j, a_get S 1000 j = X j := fun j => by show S 1000 j = X j; rw [e0]
  have n1_ : nI i + 1 = nI (i + 1) := nI_1 i
  have n2_ : nI i + 2 = nI (i + 2) := nI_add i 2
  have n3_ : nI i + 3 = nI (i + 3) := nI_add i 3
  have n4_ : nI i + 4 = nI (i + 4) := nI_add i 4
  have n5_ : nI i + 5 = nI (i + 5) := nI_add i 5
  obtain ⟨r, S1, G1, S2, G2, h1, h2, h3⟩ := p_undo hI 
  obtain ⟨x, rfl⟩ := okr_int rfl (aX_ok h1)
  have f1 := aX_fx h1
  have e1 : S1 1000 = X := (f1 1000 (by omega)).trans e0
  have l1 : a_len S1 1000 = len := by
    show (S1 1001 0).toNatClampNeg = len
    rw [f1 1001 (by omega), eN, hN, tc_n (by omega)]
  have g1 : ∀ j, a_get S1 1000 j = X j := fun j => by show S1 1000 j = X j; rw [e1]
  simp only [x_L_law_645, x_L_law_649, x_L_law_653, x_L_law_656, x_L_law_1113, n1_, n2_, n3_, n4_, n5_, l0, g0, l1, g1, ain (show i + 1 < len by omega) (show len ≤ 2147483648 by omega), ain (show i + 2 < len by omega) (show len ≤ 2147483648 by omega), ain (show i + 3 < len by omega) (show len ≤ 2147483648 by omega), ain (show i + 4 < len by omega) (show len ≤ 2147483648 by omega), tc_n (show i + 1 < 2147483648 by omega), tc_n (show i + 2 < 2147483648 by omega), tc_n (show i + 3 < 2147483648 by omega), tc_n (show i + 4 < 2147483648 by omega), a_cls_0, a_cls_34, h1, h2, eq_self_i, cmp_self, a_push_s, a_push_n, true_and, and_true, true_implies, false_implies, implies_true, not_true_eq_false, not_false_eq_true, e_10, e_01, e_11, e_00, or_true, true_or, or_false, false_or, and_self, false_and, and_false, Bool.false_eq_true, if_true, if_false]
  exact hc S2 G2 h3
theorem lw_18 {X N : Nat → Int32} {S : aS} {G : aG} {len i : Nat} {Q : aQ} (hI : InvE X N S G) (hl : len ≤ 2560) (hN : N 0 = nI len) (hi : i + 5 ≤ len) (hc : ∀ S2 G2, InvE X N S2 G2 → aX mL_law 18 [.ref 1000, .ref 0, .ref 34, .int (nI (i + 5))] [] S2 G2 Q) : aX mL_law 658 [.ref 1000, .ref 0, .ref 34, .int (nI i)] [] S G Q := by
  have e0 : S 1000 = X := by obtain ⟨w, h, T, nt, nd, b0, b1, ns, hh⟩ := hI; exact hh.2.2.2.2.2.2.1
  have eN : S 1001 = N := by obtain ⟨w, h, T, nt, nd, b0, b1, ns, hh⟩ := hI; exact hh.2.2.2.2.2.2.2
  have l0 : a_len S 1000 = len := by
    show (S 1001 0).toNatClampNeg = len
    rw [eN, hN, tc_n (by omega)]
  have g0 : ∀ j, a_get S 1000 j = X j := fun j => by show S 1000 j = X j; rw [e0]
  have n1_ : nI i + 1 = nI (i + 1) := nI_1 i
  have n2_ : nI i + 2 = nI (i + 2) := nI_add i 2
  have n3_ : nI i + 3 = nI (i + 3) := nI_add i 3
  have n4_ : nI i + 4 = nI (i + 4) := nI_add i 4
  have n5_ : nI i + 5 = nI (i + 5) := nI_add i 5
  by_cases z : X (i + 3) = 0
  · obtain ⟨r, S1, G1, S2, G2, h1, h2, h3⟩ := p_fit hI (X (i + 1)) (X (i + 2)) 0
    obtain ⟨x, rfl⟩ := okr_int rfl (aX_ok h1)
    have f1 := aX_fx h1
    have e1 : S1 1000 = X := (f1 1000 (by omega)).trans e0
    have l1 : a_len S1 1000 = len := by
      show (S1 1001 0).toNatClampNeg = len
      rw [f1 1001 (by omega), eN, hN, tc_n (by omega)]
    have g1 : ∀ j, a_get S1 1000 j = X j := fun j => by show S1 1000 j = X j; rw [e1]
    simp only [x_L_law_658, x_L_law_677, x_L_law_681, x_L_law_682, x_L_law_685, x_L_law_704, x_L_law_708, x_L_law_709, x_L_law_712, x_L_law_715, x_L_law_1113, n1_, n2_, n3_, n4_, n5_, l0, g0, l1, g1, ain (show i + 1 < len by omega) (show len ≤ 2147483648 by omega), ain (show i + 2 < len by omega) (show len ≤ 2147483648 by omega), ain (show i + 3 < len by omega) (show len ≤ 2147483648 by omega), ain (show i + 4 < len by omega) (show len ≤ 2147483648 by omega), tc_n (show i + 1 < 2147483648 by omega), tc_n (show i + 2 < 2147483648 by omega), tc_n (show i + 3 < 2147483648 by omega), tc_n (show i + 4 < 2147483648 by omega), a_cls_0, a_cls_34, z, h1, h2, eq_self_i, cmp_self, a_push_s, a_push_n, true_and, and_true, true_implies, false_implies, implies_true, not_true_eq_false, not_false_eq_true, e_10, e_01, e_11, e_00, or_true, true_or, or_false, false_or, and_self, false_and, and_false, Bool.false_eq_true, if_true, if_false]
    exact hc S2 G2 h3
  · obtain ⟨r, S1, G1, S2, G2, h1, h2, h3⟩ := p_fit hI (X (i + 1)) (X (i + 2)) 1
    obtain ⟨x, rfl⟩ := okr_int rfl (aX_ok h1)
    have f1 := aX_fx h1
    have e1 : S1 1000 = X := (f1 1000 (by omega)).trans e0
    have l1 : a_len S1 1000 = len := by
      show (S1 1001 0).toNatClampNeg = len
      rw [f1 1001 (by omega), eN, hN, tc_n (by omega)]
    have g1 : ∀ j, a_get S1 1000 j = X j := fun j => by show S1 1000 j = X j; rw [e1]
    simp only [x_L_law_658, x_L_law_677, x_L_law_681, x_L_law_682, x_L_law_685, x_L_law_704, x_L_law_708, x_L_law_709, x_L_law_712, x_L_law_715, x_L_law_1113, n1_, n2_, n3_, n4_, n5_, l0, g0, l1, g1, ain (show i + 1 < len by omega) (show len ≤ 2147483648 by omega), ain (show i + 2 < len by omega) (show len ≤ 2147483648 by omega), ain (show i + 3 < len by omega) (show len ≤ 2147483648 by omega), ain (show i + 4 < len by omega) (show len ≤ 2147483648 by omega), tc_n (show i + 1 < 2147483648 by omega), tc_n (show i + 2 < 2147483648 by omega), tc_n (show i + 3 < 2147483648 by omega), tc_n (show i + 4 < 2147483648 by omega), a_cls_0, a_cls_34, z, h1, h2, eq_self_i, cmp_self, a_push_s, a_push_n, true_and, and_true, true_implies, false_implies, implies_true, not_true_eq_false, not_false_eq_true, e_10, e_01, e_11, e_00, or_true, true_or, or_false, false_or, and_self, false_and, and_false, Bool.false_eq_true, if_true, if_false]
    exact hc S2 G2 h3
theorem lw_19 {X N : Nat → Int32} {S : aS} {G : aG} {len i : Nat} {Q : aQ} (hI : InvE X N S G) (hl : len ≤ 2560) (hN : N 0 = nI len) (hi : i + 5 ≤ len) (hc : ∀ S2 G2, InvE X N S2 G2 → aX mL_law 18 [.ref 1000, .ref 0, .ref 34, .int (nI (i + 5))] [] S2 G2 Q) : aX mL_law 717 [.ref 1000, .ref 0, .ref 34, .int (nI i)] [] S G Q := by
  have e0 : S 1000 = X := by obtain ⟨w, h, T, nt, nd, b0, b1, ns, hh⟩ := hI; exact hh.2.2.2.2.2.2.1
  have eN : S 1001 = N := by obtain ⟨w, h, T, nt, nd, b0, b1, ns, hh⟩ := hI; exact hh.2.2.2.2.2.2.2
  have l0 : a_len S 1000 = len := by
    show (S 1001 0).toNatClampNeg = len
    rw [eN, hN, tc_n (by omega)]
  have g0 : ∀ j, a_get S 1000 j = X j := fun j => by show S 1000 j = X j; rw [e0]
  have n1_ : nI i + 1 = nI (i + 1) := nI_1 i
  have n2_ : nI i + 2 = nI (i + 2) := nI_add i 2
  have n3_ : nI i + 3 = nI (i + 3) := nI_add i 3
  have n4_ : nI i + 4 = nI (i + 4) := nI_add i 4
  have n5_ : nI i + 5 = nI (i + 5) := nI_add i 5
  obtain ⟨r, S1, G1, S2, G2, h1, h2, h3⟩ := p_best hI (X (i + 1))
  obtain ⟨x, rfl⟩ := okr_int rfl (aX_ok h1)
  have f1 := aX_fx h1
  have e1 : S1 1000 = X := (f1 1000 (by omega)).trans e0
  have l1 : a_len S1 1000 = len := by
    show (S1 1001 0).toNatClampNeg = len
    rw [f1 1001 (by omega), eN, hN, tc_n (by omega)]
  have g1 : ∀ j, a_get S1 1000 j = X j := fun j => by show S1 1000 j = X j; rw [e1]
  simp only [x_L_law_717, x_L_law_726, x_L_law_735, x_L_law_738, x_L_law_1113, n1_, n2_, n3_, n4_, n5_, l0, g0, l1, g1, ain (show i + 1 < len by omega) (show len ≤ 2147483648 by omega), ain (show i + 2 < len by omega) (show len ≤ 2147483648 by omega), ain (show i + 3 < len by omega) (show len ≤ 2147483648 by omega), ain (show i + 4 < len by omega) (show len ≤ 2147483648 by omega), tc_n (show i + 1 < 2147483648 by omega), tc_n (show i + 2 < 2147483648 by omega), tc_n (show i + 3 < 2147483648 by omega), tc_n (show i + 4 < 2147483648 by omega), a_cls_0, a_cls_34, h1, h2, eq_self_i, cmp_self, a_push_s, a_push_n, true_and, and_true, true_implies, false_implies, implies_true, not_true_eq_false, not_false_eq_true, e_10, e_01, e_11, e_00, or_true, true_or, or_false, false_or, and_self, false_and, and_false, Bool.false_eq_true, if_true, if_false]
  exact hc S2 G2 h3
theorem lw_20 {X N : Nat → Int32} {S : aS} {G : aG} {len i : Nat} {Q : aQ} (hI : InvE X N S G) (hl : len ≤ 2560) (hN : N 0 = nI len) (hi : i + 5 ≤ len) (hc : ∀ S2 G2, InvE X N S2 G2 → aX mL_law 18 [.ref 1000, .ref 0, .ref 34, .int (nI (i + 5))] [] S2 G2 Q) : aX mL_law 740 [.ref 1000, .ref 0, .ref 34, .int (nI i)] [] S G Q := by
  have e0 : S 1000 = X := by obtain ⟨w, h, T, nt, nd, b0, b1, ns, hh⟩ := hI; exact hh.2.2.2.2.2.2.1
  have eN : S 1001 = N := by obtain ⟨w, h, T, nt, nd, b0, b1, ns, hh⟩ := hI; exact hh.2.2.2.2.2.2.2
  have l0 : a_len S 1000 = len := by
    show (S 1001 0).toNatClampNeg = len
    rw [eN, hN, tc_n (by omega)]
  have g0 : ∀ j, a_get S 1000 j = X j := fun j => by show S 1000 j = X j; rw [e0]
  have n1_ : nI i + 1 = nI (i + 1) := nI_1 i
  have n2_ : nI i + 2 = nI (i + 2) := nI_add i 2
  have n3_ : nI i + 3 = nI (i + 3) := nI_add i 3
  have n4_ : nI i + 4 = nI (i + 4) := nI_add i 4
  have n5_ : nI i + 5 = nI (i + 5) := nI_add i 5
  obtain ⟨r, S1, G1, S2, G2, h1, h2, h3⟩ := p_judge hI (X (i + 1)) (((Int32.toInt64 (X (i + 2))) <<< (Int32.toInt64 32 &&& 63)) ||| ((Int32.toInt64 (X (i + 3))) &&& 4294967295))
  obtain ⟨x, rfl⟩ := okr_int rfl (aX_ok h1)
  have f1 := aX_fx h1
  have e1 : S1 1000 = X := (f1 1000 (by omega)).trans e0
  have l1 : a_len S1 1000 = len := by
    show (S1 1001 0).toNatClampNeg = len
    rw [f1 1001 (by omega), eN, hN, tc_n (by omega)]
  have g1 : ∀ j, a_get S1 1000 j = X j := fun j => by show S1 1000 j = X j; rw [e1]
  simp only [x_L_law_740, x_L_law_769, x_L_law_798, x_L_law_801, x_L_law_1113, n1_, n2_, n3_, n4_, n5_, l0, g0, l1, g1, ain (show i + 1 < len by omega) (show len ≤ 2147483648 by omega), ain (show i + 2 < len by omega) (show len ≤ 2147483648 by omega), ain (show i + 3 < len by omega) (show len ≤ 2147483648 by omega), ain (show i + 4 < len by omega) (show len ≤ 2147483648 by omega), tc_n (show i + 1 < 2147483648 by omega), tc_n (show i + 2 < 2147483648 by omega), tc_n (show i + 3 < 2147483648 by omega), tc_n (show i + 4 < 2147483648 by omega), a_cls_0, a_cls_34, h1, h2, eq_self_i, cmp_self, a_push_s, a_push_n, true_and, and_true, true_implies, false_implies, implies_true, not_true_eq_false, not_false_eq_true, e_10, e_01, e_11, e_00, or_true, true_or, or_false, false_or, and_self, false_and, and_false, Bool.false_eq_true, if_true, if_false]
  exact hc S2 G2 h3
theorem lw_21 {X N : Nat → Int32} {S : aS} {G : aG} {len i : Nat} {Q : aQ} (hI : InvE X N S G) (hl : len ≤ 2560) (hN : N 0 = nI len) (hi : i + 5 ≤ len) (hc : ∀ S2 G2, InvE X N S2 G2 → aX mL_law 18 [.ref 1000, .ref 0, .ref 34, .int (nI (i + 5))] [] S2 G2 Q) : aX mL_law 803 [.ref 1000, .ref 0, .ref 34, .int (nI i)] [] S G Q := by
  have e0 : S 1000 = X := by obtain ⟨w, h, T, nt, nd, b0, b1, ns, hh⟩ := hI; exact hh.2.2.2.2.2.2.1
  have eN : S 1001 = N := by obtain ⟨w, h, T, nt, nd, b0, b1, ns, hh⟩ := hI; exact hh.2.2.2.2.2.2.2
  have l0 : a_len S 1000 = len := by
    show (S 1001 0).toNatClampNeg = len
    rw [eN, hN, tc_n (by omega)]
  have g0 : ∀ j, a_get S 1000 j = X j := fun j => by show S 1000 j = X j; rw [e0]
  have n1_ : nI i + 1 = nI (i + 1) := nI_1 i
  have n2_ : nI i + 2 = nI (i + 2) := nI_add i 2
  have n3_ : nI i + 3 = nI (i + 3) := nI_add i 3
  have n4_ : nI i + 4 = nI (i + 4) := nI_add i 4
  have n5_ : nI i + 5 = nI (i + 5) := nI_add i 5
  by_cases z : X (i + 2) = 0
  · obtain ⟨r, S1, G1, S2, G2, h1, h2, h3⟩ := p_share hI (X (i + 1)) 0
    obtain ⟨x, rfl⟩ := okr_int rfl (aX_ok h1)
    have f1 := aX_fx h1
    have e1 : S1 1000 = X := (f1 1000 (by omega)).trans e0
    have l1 : a_len S1 1000 = len := by
      show (S1 1001 0).toNatClampNeg = len
      rw [f1 1001 (by omega), eN, hN, tc_n (by omega)]
    have g1 : ∀ j, a_get S1 1000 j = X j := fun j => by show S1 1000 j = X j; rw [e1]
    simp only [x_L_law_803, x_L_law_817, x_L_law_821, x_L_law_822, x_L_law_825, x_L_law_839, x_L_law_843, x_L_law_844, x_L_law_847, x_L_law_850, x_L_law_1113, n1_, n2_, n3_, n4_, n5_, l0, g0, l1, g1, ain (show i + 1 < len by omega) (show len ≤ 2147483648 by omega), ain (show i + 2 < len by omega) (show len ≤ 2147483648 by omega), ain (show i + 3 < len by omega) (show len ≤ 2147483648 by omega), ain (show i + 4 < len by omega) (show len ≤ 2147483648 by omega), tc_n (show i + 1 < 2147483648 by omega), tc_n (show i + 2 < 2147483648 by omega), tc_n (show i + 3 < 2147483648 by omega), tc_n (show i + 4 < 2147483648 by omega), a_cls_0, a_cls_34, z, h1, h2, eq_self_i, cmp_self, a_push_s, a_push_n, true_and, and_true, true_implies, false_implies, implies_true, not_true_eq_false, not_false_eq_true, e_10, e_01, e_11, e_00, or_true, true_or, or_false, false_or, and_self, false_and, and_false, Bool.false_eq_true, if_true, if_false]
    exact hc S2 G2 h3
  · obtain ⟨r, S1, G1, S2, G2, h1, h2, h3⟩ := p_share hI (X (i + 1)) 1
    obtain ⟨x, rfl⟩ := okr_int rfl (aX_ok h1)
    have f1 := aX_fx h1
    have e1 : S1 1000 = X := (f1 1000 (by omega)).trans e0
    have l1 : a_len S1 1000 = len := by
      show (S1 1001 0).toNatClampNeg = len
      rw [f1 1001 (by omega), eN, hN, tc_n (by omega)]
    have g1 : ∀ j, a_get S1 1000 j = X j := fun j => by show S1 1000 j = X j; rw [e1]
    simp only [x_L_law_803, x_L_law_817, x_L_law_821, x_L_law_822, x_L_law_825, x_L_law_839, x_L_law_843, x_L_law_844, x_L_law_847, x_L_law_850, x_L_law_1113, n1_, n2_, n3_, n4_, n5_, l0, g0, l1, g1, ain (show i + 1 < len by omega) (show len ≤ 2147483648 by omega), ain (show i + 2 < len by omega) (show len ≤ 2147483648 by omega), ain (show i + 3 < len by omega) (show len ≤ 2147483648 by omega), ain (show i + 4 < len by omega) (show len ≤ 2147483648 by omega), tc_n (show i + 1 < 2147483648 by omega), tc_n (show i + 2 < 2147483648 by omega), tc_n (show i + 3 < 2147483648 by omega), tc_n (show i + 4 < 2147483648 by omega), a_cls_0, a_cls_34, z, h1, h2, eq_self_i, cmp_self, a_push_s, a_push_n, true_and, and_true, true_implies, false_implies, implies_true, not_true_eq_false, not_false_eq_true, e_10, e_01, e_11, e_00, or_true, true_or, or_false, false_or, and_self, false_and, and_false, Bool.false_eq_true, if_true, if_false]
    exact hc S2 G2 h3
theorem lw_22 {X N : Nat → Int32} {S : aS} {G : aG} {len i : Nat} {Q : aQ} (hI : InvE X N S G) (hl : len ≤ 2560) (hN : N 0 = nI len) (hi : i + 5 ≤ len) (hc : ∀ S2 G2, InvE X N S2 G2 → aX mL_law 18 [.ref 1000, .ref 0, .ref 34, .int (nI (i + 5))] [] S2 G2 Q) : aX mL_law 852 [.ref 1000, .ref 0, .ref 34, .int (nI i)] [] S G Q := by
  have e0 : S 1000 = X := by obtain ⟨w, h, T, nt, nd, b0, b1, ns, hh⟩ := hI; exact hh.2.2.2.2.2.2.1
  have eN : S 1001 = N := by obtain ⟨w, h, T, nt, nd, b0, b1, ns, hh⟩ := hI; exact hh.2.2.2.2.2.2.2
  have l0 : a_len S 1000 = len := by
    show (S 1001 0).toNatClampNeg = len
    rw [eN, hN, tc_n (by omega)]
  have g0 : ∀ j, a_get S 1000 j = X j := fun j => by show S 1000 j = X j; rw [e0]
  have n1_ : nI i + 1 = nI (i + 1) := nI_1 i
  have n2_ : nI i + 2 = nI (i + 2) := nI_add i 2
  have n3_ : nI i + 3 = nI (i + 3) := nI_add i 3
  have n4_ : nI i + 4 = nI (i + 4) := nI_add i 4
  have n5_ : nI i + 5 = nI (i + 5) := nI_add i 5
  obtain ⟨r, S1, G1, S2, G2, h1, h2, h3⟩ := p_see hI (X (i + 1)) (X (i + 2))
  obtain ⟨x, rfl⟩ := okr_int rfl (aX_ok h1)
  have f1 := aX_fx h1
  have e1 : S1 1000 = X := (f1 1000 (by omega)).trans e0
  have l1 : a_len S1 1000 = len := by
    show (S1 1001 0).toNatClampNeg = len
    rw [f1 1001 (by omega), eN, hN, tc_n (by omega)]
  have g1 : ∀ j, a_get S1 1000 j = X j := fun j => by show S1 1000 j = X j; rw [e1]
  simp only [x_L_law_852, x_L_law_866, x_L_law_880, x_L_law_883, x_L_law_1113, n1_, n2_, n3_, n4_, n5_, l0, g0, l1, g1, ain (show i + 1 < len by omega) (show len ≤ 2147483648 by omega), ain (show i + 2 < len by omega) (show len ≤ 2147483648 by omega), ain (show i + 3 < len by omega) (show len ≤ 2147483648 by omega), ain (show i + 4 < len by omega) (show len ≤ 2147483648 by omega), tc_n (show i + 1 < 2147483648 by omega), tc_n (show i + 2 < 2147483648 by omega), tc_n (show i + 3 < 2147483648 by omega), tc_n (show i + 4 < 2147483648 by omega), a_cls_0, a_cls_34, h1, h2, eq_self_i, cmp_self, a_push_s, a_push_n, true_and, and_true, true_implies, false_implies, implies_true, not_true_eq_false, not_false_eq_true, e_10, e_01, e_11, e_00, or_true, true_or, or_false, false_or, and_self, false_and, and_false, Bool.false_eq_true, if_true, if_false]
  exact hc S2 G2 h3
theorem lw_23 {X N : Nat → Int32} {S : aS} {G : aG} {len i : Nat} {Q : aQ} (hI : InvE X N S G) (hl : len ≤ 2560) (hN : N 0 = nI len) (hi : i + 5 ≤ len) (hc : ∀ S2 G2, InvE X N S2 G2 → aX mL_law 18 [.ref 1000, .ref 0, .ref 34, .int (nI (i + 5))] [] S2 G2 Q) : aX mL_law 885 [.ref 1000, .ref 0, .ref 34, .int (nI i)] [] S G Q := by
  have e0 : S 1000 = X := by obtain ⟨w, h, T, nt, nd, b0, b1, ns, hh⟩ := hI; exact hh.2.2.2.2.2.2.1
  have eN : S 1001 = N := by obtain ⟨w, h, T, nt, nd, b0, b1, ns, hh⟩ := hI; exact hh.2.2.2.2.2.2.2
  have l0 : a_len S 1000 = len := by
    show (S 1001 0).toNatClampNeg = len
    rw [eN, hN, tc_n (by omega)]
  have g0 : ∀ j, a_get S 1000 j = X j := fun j => by show S 1000 j = X j; rw [e0]
  have n1_ : nI i + 1 = nI (i + 1) := nI_1 i
  have n2_ : nI i + 2 = nI (i + 2) := nI_add i 2
  have n3_ : nI i + 3 = nI (i + 3) := nI_add i 3
  have n4_ : nI i + 4 = nI (i + 4) := nI_add i 4
  have n5_ : nI i + 5 = nI (i + 5) := nI_add i 5
  obtain ⟨r, S1, G1, S2, G2, h1, h2, h3⟩ := p_unsee hI 
  obtain ⟨x, rfl⟩ := okr_int rfl (aX_ok h1)
  have f1 := aX_fx h1
  have e1 : S1 1000 = X := (f1 1000 (by omega)).trans e0
  have l1 : a_len S1 1000 = len := by
    show (S1 1001 0).toNatClampNeg = len
    rw [f1 1001 (by omega), eN, hN, tc_n (by omega)]
  have g1 : ∀ j, a_get S1 1000 j = X j := fun j => by show S1 1000 j = X j; rw [e1]
  simp only [x_L_law_885, x_L_law_889, x_L_law_893, x_L_law_896, x_L_law_1113, n1_, n2_, n3_, n4_, n5_, l0, g0, l1, g1, ain (show i + 1 < len by omega) (show len ≤ 2147483648 by omega), ain (show i + 2 < len by omega) (show len ≤ 2147483648 by omega), ain (show i + 3 < len by omega) (show len ≤ 2147483648 by omega), ain (show i + 4 < len by omega) (show len ≤ 2147483648 by omega), tc_n (show i + 1 < 2147483648 by omega), tc_n (show i + 2 < 2147483648 by omega), tc_n (show i + 3 < 2147483648 by omega), tc_n (show i + 4 < 2147483648 by omega), a_cls_0, a_cls_34, h1, h2, eq_self_i, cmp_self, a_push_s, a_push_n, true_and, and_true, true_implies, false_implies, implies_true, not_true_eq_false, not_false_eq_true, e_10, e_01, e_11, e_00, or_true, true_or, or_false, false_or, and_self, false_and, and_false, Bool.false_eq_true, if_true, if_false]
  exact hc S2 G2 h3
theorem lw_24 {X N : Nat → Int32} {S : aS} {G : aG} {len i : Nat} {Q : aQ} (hI : InvE X N S G) (hl : len ≤ 2560) (hN : N 0 = nI len) (hi : i + 5 ≤ len) (hc : ∀ S2 G2, InvE X N S2 G2 → aX mL_law 18 [.ref 1000, .ref 0, .ref 34, .int (nI (i + 5))] [] S2 G2 Q) : aX mL_law 898 [.ref 1000, .ref 0, .ref 34, .int (nI i)] [] S G Q := by
  have e0 : S 1000 = X := by obtain ⟨w, h, T, nt, nd, b0, b1, ns, hh⟩ := hI; exact hh.2.2.2.2.2.2.1
  have eN : S 1001 = N := by obtain ⟨w, h, T, nt, nd, b0, b1, ns, hh⟩ := hI; exact hh.2.2.2.2.2.2.2
  have l0 : a_len S 1000 = len := by
    show (S 1001 0).toNatClampNeg = len
    rw [eN, hN, tc_n (by omega)]
  have g0 : ∀ j, a_get S 1000 j = X j := fun j => by show S 1000 j = X j; rw [e0]
  have n1_ : nI i + 1 = nI (i + 1) := nI_1 i
  have n2_ : nI i + 2 = nI (i + 2) := nI_add i 2
  have n3_ : nI i + 3 = nI (i + 3) := nI_add i 3
  have n4_ : nI i + 4 = nI (i + 4) := nI_add i 4
  have n5_ : nI i + 5 = nI (i + 5) := nI_add i 5
  obtain ⟨r, S1, G1, S2, G2, h1, h2, h3⟩ := p_ways hI (X (i + 1))
  obtain ⟨x, rfl⟩ := okr_int rfl (aX_ok h1)
  have f1 := aX_fx h1
  have e1 : S1 1000 = X := (f1 1000 (by omega)).trans e0
  have l1 : a_len S1 1000 = len := by
    show (S1 1001 0).toNatClampNeg = len
    rw [f1 1001 (by omega), eN, hN, tc_n (by omega)]
  have g1 : ∀ j, a_get S1 1000 j = X j := fun j => by show S1 1000 j = X j; rw [e1]
  simp only [x_L_law_898, x_L_law_907, x_L_law_916, x_L_law_919, x_L_law_1113, n1_, n2_, n3_, n4_, n5_, l0, g0, l1, g1, ain (show i + 1 < len by omega) (show len ≤ 2147483648 by omega), ain (show i + 2 < len by omega) (show len ≤ 2147483648 by omega), ain (show i + 3 < len by omega) (show len ≤ 2147483648 by omega), ain (show i + 4 < len by omega) (show len ≤ 2147483648 by omega), tc_n (show i + 1 < 2147483648 by omega), tc_n (show i + 2 < 2147483648 by omega), tc_n (show i + 3 < 2147483648 by omega), tc_n (show i + 4 < 2147483648 by omega), a_cls_0, a_cls_34, h1, h2, eq_self_i, cmp_self, a_push_s, a_push_n, true_and, and_true, true_implies, false_implies, implies_true, not_true_eq_false, not_false_eq_true, e_10, e_01, e_11, e_00, or_true, true_or, or_false, false_or, and_self, false_and, and_false, Bool.false_eq_true, if_true, if_false]
  exact hc S2 G2 h3
theorem lw_25 {X N : Nat → Int32} {S : aS} {G : aG} {len i : Nat} {Q : aQ} (hI : InvE X N S G) (hl : len ≤ 2560) (hN : N 0 = nI len) (hi : i + 5 ≤ len) (hc : ∀ S2 G2, InvE X N S2 G2 → aX mL_law 18 [.ref 1000, .ref 0, .ref 34, .int (nI (i + 5))] [] S2 G2 Q) : aX mL_law 921 [.ref 1000, .ref 0, .ref 34, .int (nI i)] [] S G Q := by
  have e0 : S 1000 = X := by obtain ⟨w, h, T, nt, nd, b0, b1, ns, hh⟩ := hI; exact hh.2.2.2.2.2.2.1
  have eN : S 1001 = N := by obtain ⟨w, h, T, nt, nd, b0, b1, ns, hh⟩ := hI; exact hh.2.2.2.2.2.2.2
  have l0 : a_len S 1000 = len := by
    show (S 1001 0).toNatClampNeg = len
    rw [eN, hN, tc_n (by omega)]
  have g0 : ∀ j, a_get S 1000 j = X j := fun j => by show S 1000 j = X j; rw [e0]
  have n1_ : nI i + 1 = nI (i + 1) := nI_1 i
  have n2_ : nI i + 2 = nI (i + 2) := nI_add i 2
  have n3_ : nI i + 3 = nI (i + 3) := nI_add i 3
  have n4_ : nI i + 4 = nI (i + 4) := nI_add i 4
  have n5_ : nI i + 5 = nI (i + 5) := nI_add i 5
  by_cases z : X (i + 4) = 0
  · obtain ⟨r, S1, G1, S2, G2, h1, h2, h3⟩ := p_bleached hI (X (i + 1)) (X (i + 2)) (X (i + 3)) 0
    obtain ⟨x, rfl⟩ := okr_int rfl (aX_ok h1)
    have f1 := aX_fx h1
    have e1 : S1 1000 = X := (f1 1000 (by omega)).trans e0
    have l1 : a_len S1 1000 = len := by
      show (S1 1001 0).toNatClampNeg = len
      rw [f1 1001 (by omega), eN, hN, tc_n (by omega)]
    have g1 : ∀ j, a_get S1 1000 j = X j := fun j => by show S1 1000 j = X j; rw [e1]
    simp only [x_L_law_921, x_L_law_945, x_L_law_949, x_L_law_950, x_L_law_953, x_L_law_977, x_L_law_981, x_L_law_982, x_L_law_985, x_L_law_988, x_L_law_1113, n1_, n2_, n3_, n4_, n5_, l0, g0, l1, g1, ain (show i + 1 < len by omega) (show len ≤ 2147483648 by omega), ain (show i + 2 < len by omega) (show len ≤ 2147483648 by omega), ain (show i + 3 < len by omega) (show len ≤ 2147483648 by omega), ain (show i + 4 < len by omega) (show len ≤ 2147483648 by omega), tc_n (show i + 1 < 2147483648 by omega), tc_n (show i + 2 < 2147483648 by omega), tc_n (show i + 3 < 2147483648 by omega), tc_n (show i + 4 < 2147483648 by omega), a_cls_0, a_cls_34, z, h1, h2, eq_self_i, cmp_self, a_push_s, a_push_n, true_and, and_true, true_implies, false_implies, implies_true, not_true_eq_false, not_false_eq_true, e_10, e_01, e_11, e_00, or_true, true_or, or_false, false_or, and_self, false_and, and_false, Bool.false_eq_true, if_true, if_false]
    exact hc S2 G2 h3
  · obtain ⟨r, S1, G1, S2, G2, h1, h2, h3⟩ := p_bleached hI (X (i + 1)) (X (i + 2)) (X (i + 3)) 1
    obtain ⟨x, rfl⟩ := okr_int rfl (aX_ok h1)
    have f1 := aX_fx h1
    have e1 : S1 1000 = X := (f1 1000 (by omega)).trans e0
    have l1 : a_len S1 1000 = len := by
      show (S1 1001 0).toNatClampNeg = len
      rw [f1 1001 (by omega), eN, hN, tc_n (by omega)]
    have g1 : ∀ j, a_get S1 1000 j = X j := fun j => by show S1 1000 j = X j; rw [e1]
    simp only [x_L_law_921, x_L_law_945, x_L_law_949, x_L_law_950, x_L_law_953, x_L_law_977, x_L_law_981, x_L_law_982, x_L_law_985, x_L_law_988, x_L_law_1113, n1_, n2_, n3_, n4_, n5_, l0, g0, l1, g1, ain (show i + 1 < len by omega) (show len ≤ 2147483648 by omega), ain (show i + 2 < len by omega) (show len ≤ 2147483648 by omega), ain (show i + 3 < len by omega) (show len ≤ 2147483648 by omega), ain (show i + 4 < len by omega) (show len ≤ 2147483648 by omega), tc_n (show i + 1 < 2147483648 by omega), tc_n (show i + 2 < 2147483648 by omega), tc_n (show i + 3 < 2147483648 by omega), tc_n (show i + 4 < 2147483648 by omega), a_cls_0, a_cls_34, z, h1, h2, eq_self_i, cmp_self, a_push_s, a_push_n, true_and, and_true, true_implies, false_implies, implies_true, not_true_eq_false, not_false_eq_true, e_10, e_01, e_11, e_00, or_true, true_or, or_false, false_or, and_self, false_and, and_false, Bool.false_eq_true, if_true, if_false]
    exact hc S2 G2 h3
theorem lw_26 {X N : Nat → Int32} {S : aS} {G : aG} {len i : Nat} {Q : aQ} (hI : InvE X N S G) (hl : len ≤ 2560) (hN : N 0 = nI len) (hi : i + 5 ≤ len) (hc : ∀ S2 G2, InvE X N S2 G2 → aX mL_law 18 [.ref 1000, .ref 0, .ref 34, .int (nI (i + 5))] [] S2 G2 Q) : aX mL_law 990 [.ref 1000, .ref 0, .ref 34, .int (nI i)] [] S G Q := by
  have e0 : S 1000 = X := by obtain ⟨w, h, T, nt, nd, b0, b1, ns, hh⟩ := hI; exact hh.2.2.2.2.2.2.1
  have eN : S 1001 = N := by obtain ⟨w, h, T, nt, nd, b0, b1, ns, hh⟩ := hI; exact hh.2.2.2.2.2.2.2
  have l0 : a_len S 1000 = len := by
    show (S 1001 0).toNatClampNeg = len
    rw [eN, hN, tc_n (by omega)]
  have g0 : ∀ j, a_get S 1000 j = X j := fun j => by show S 1000 j = X j; rw [e0]
  have n1_ : nI i + 1 = nI (i + 1) := nI_1 i
  have n2_ : nI i + 2 = nI (i + 2) := nI_add i 2
  have n3_ : nI i + 3 = nI (i + 3) := nI_add i 3
  have n4_ : nI i + 4 = nI (i + 4) := nI_add i 4
  have n5_ : nI i + 5 = nI (i + 5) := nI_add i 5
  obtain ⟨r, S1, G1, S2, G2, h1, h2, h3⟩ := p_seed hI (((Int32.toInt64 (X (i + 1))) <<< (Int32.toInt64 32 &&& 63)) ||| ((Int32.toInt64 (X (i + 2))) &&& 4294967295))
  obtain ⟨x, rfl⟩ := okr_long rfl (aX_ok h1)
  have f1 := aX_fx h1
  have e1 : S1 1000 = X := (f1 1000 (by omega)).trans e0
  have l1 : a_len S1 1000 = len := by
    show (S1 1001 0).toNatClampNeg = len
    rw [f1 1001 (by omega), eN, hN, tc_n (by omega)]
  have g1 : ∀ j, a_get S1 1000 j = X j := fun j => by show S1 1000 j = X j; rw [e1]
  simp only [x_L_law_990, x_L_law_1014, x_L_law_1038, x_L_law_1042, x_L_law_1113, n1_, n2_, n3_, n4_, n5_, l0, g0, l1, g1, ain (show i + 1 < len by omega) (show len ≤ 2147483648 by omega), ain (show i + 2 < len by omega) (show len ≤ 2147483648 by omega), ain (show i + 3 < len by omega) (show len ≤ 2147483648 by omega), ain (show i + 4 < len by omega) (show len ≤ 2147483648 by omega), tc_n (show i + 1 < 2147483648 by omega), tc_n (show i + 2 < 2147483648 by omega), tc_n (show i + 3 < 2147483648 by omega), tc_n (show i + 4 < 2147483648 by omega), a_cls_0, a_cls_34, h1, h2, eq_self_i, cmp_self, a_push_s, a_push_n, true_and, and_true, true_implies, false_implies, implies_true, not_true_eq_false, not_false_eq_true, e_10, e_01, e_11, e_00, or_true, true_or, or_false, false_or, and_self, false_and, and_false, Bool.false_eq_true, if_true, if_false]
  exact hc S2 G2 h3
theorem lw_27 {X N : Nat → Int32} {S : aS} {G : aG} {len i : Nat} {Q : aQ} (hI : InvE X N S G) (hl : len ≤ 2560) (hN : N 0 = nI len) (hi : i + 5 ≤ len) (hc : ∀ S2 G2, InvE X N S2 G2 → aX mL_law 18 [.ref 1000, .ref 0, .ref 34, .int (nI (i + 5))] [] S2 G2 Q) : aX mL_law 1044 [.ref 1000, .ref 0, .ref 34, .int (nI i)] [] S G Q := by
  have e0 : S 1000 = X := by obtain ⟨w, h, T, nt, nd, b0, b1, ns, hh⟩ := hI; exact hh.2.2.2.2.2.2.1
  have eN : S 1001 = N := by obtain ⟨w, h, T, nt, nd, b0, b1, ns, hh⟩ := hI; exact hh.2.2.2.2.2.2.2
  have l0 : a_len S 1000 = len := by
    show (S 1001 0).toNatClampNeg = len
    rw [eN, hN, tc_n (by omega)]
  have g0 : ∀ j, a_get S 1000 j = X j := fun j => by show S 1000 j = X j; rw [e0]
  have n1_ : nI i + 1 = nI (i + 1) := nI_1 i
  have n2_ : nI i + 2 = nI (i + 2) := nI_add i 2
  have n3_ : nI i + 3 = nI (i + 3) := nI_add i 3
  have n4_ : nI i + 4 = nI (i + 4) := nI_add i 4
  have n5_ : nI i + 5 = nI (i + 5) := nI_add i 5
  obtain ⟨r, S1, G1, S2, G2, h1, h2, h3⟩ := p_drawn hI (X (i + 1))
  obtain ⟨x, rfl⟩ := okr_int rfl (aX_ok h1)
  have f1 := aX_fx h1
  have e1 : S1 1000 = X := (f1 1000 (by omega)).trans e0
  have l1 : a_len S1 1000 = len := by
    show (S1 1001 0).toNatClampNeg = len
    rw [f1 1001 (by omega), eN, hN, tc_n (by omega)]
  have g1 : ∀ j, a_get S1 1000 j = X j := fun j => by show S1 1000 j = X j; rw [e1]
  simp only [x_L_law_1044, x_L_law_1053, x_L_law_1062, x_L_law_1065, x_L_law_1113, n1_, n2_, n3_, n4_, n5_, l0, g0, l1, g1, ain (show i + 1 < len by omega) (show len ≤ 2147483648 by omega), ain (show i + 2 < len by omega) (show len ≤ 2147483648 by omega), ain (show i + 3 < len by omega) (show len ≤ 2147483648 by omega), ain (show i + 4 < len by omega) (show len ≤ 2147483648 by omega), tc_n (show i + 1 < 2147483648 by omega), tc_n (show i + 2 < 2147483648 by omega), tc_n (show i + 3 < 2147483648 by omega), tc_n (show i + 4 < 2147483648 by omega), a_cls_0, a_cls_34, h1, h2, eq_self_i, cmp_self, a_push_s, a_push_n, true_and, and_true, true_implies, false_implies, implies_true, not_true_eq_false, not_false_eq_true, e_10, e_01, e_11, e_00, or_true, true_or, or_false, false_or, and_self, false_and, and_false, Bool.false_eq_true, if_true, if_false]
  exact hc S2 G2 h3
theorem lw_28 {X N : Nat → Int32} {S : aS} {G : aG} {len i : Nat} {Q : aQ} (hI : InvE X N S G) (hl : len ≤ 2560) (hN : N 0 = nI len) (hi : i + 5 ≤ len) (hc : ∀ S2 G2, InvE X N S2 G2 → aX mL_law 18 [.ref 1000, .ref 0, .ref 34, .int (nI (i + 5))] [] S2 G2 Q) : aX mL_law 1067 [.ref 1000, .ref 0, .ref 34, .int (nI i)] [] S G Q := by
  have e0 : S 1000 = X := by obtain ⟨w, h, T, nt, nd, b0, b1, ns, hh⟩ := hI; exact hh.2.2.2.2.2.2.1
  have eN : S 1001 = N := by obtain ⟨w, h, T, nt, nd, b0, b1, ns, hh⟩ := hI; exact hh.2.2.2.2.2.2.2
  have l0 : a_len S 1000 = len := by
    show (S 1001 0).toNatClampNeg = len
    rw [eN, hN, tc_n (by omega)]
  have g0 : ∀ j, a_get S 1000 j = X j := fun j => by show S 1000 j = X j; rw [e0]
  have n1_ : nI i + 1 = nI (i + 1) := nI_1 i
  have n2_ : nI i + 2 = nI (i + 2) := nI_add i 2
  have n3_ : nI i + 3 = nI (i + 3) := nI_add i 3
  have n4_ : nI i + 4 = nI (i + 4) := nI_add i 4
  have n5_ : nI i + 5 = nI (i + 5) := nI_add i 5
  obtain ⟨r, S1, G1, S2, G2, h1, h2, h3⟩ := p_keep hI (X (i + 1))
  obtain ⟨x, rfl⟩ := okr_int rfl (aX_ok h1)
  have f1 := aX_fx h1
  have e1 : S1 1000 = X := (f1 1000 (by omega)).trans e0
  have l1 : a_len S1 1000 = len := by
    show (S1 1001 0).toNatClampNeg = len
    rw [f1 1001 (by omega), eN, hN, tc_n (by omega)]
  have g1 : ∀ j, a_get S1 1000 j = X j := fun j => by show S1 1000 j = X j; rw [e1]
  simp only [x_L_law_1067, x_L_law_1076, x_L_law_1085, x_L_law_1088, x_L_law_1113, n1_, n2_, n3_, n4_, n5_, l0, g0, l1, g1, ain (show i + 1 < len by omega) (show len ≤ 2147483648 by omega), ain (show i + 2 < len by omega) (show len ≤ 2147483648 by omega), ain (show i + 3 < len by omega) (show len ≤ 2147483648 by omega), ain (show i + 4 < len by omega) (show len ≤ 2147483648 by omega), tc_n (show i + 1 < 2147483648 by omega), tc_n (show i + 2 < 2147483648 by omega), tc_n (show i + 3 < 2147483648 by omega), tc_n (show i + 4 < 2147483648 by omega), a_cls_0, a_cls_34, h1, h2, eq_self_i, cmp_self, a_push_s, a_push_n, true_and, and_true, true_implies, false_implies, implies_true, not_true_eq_false, not_false_eq_true, e_10, e_01, e_11, e_00, or_true, true_or, or_false, false_or, and_self, false_and, and_false, Bool.false_eq_true, if_true, if_false]
  exact hc S2 G2 h3
theorem lw_29 {X N : Nat → Int32} {S : aS} {G : aG} {len i : Nat} {Q : aQ} (hI : InvE X N S G) (hl : len ≤ 2560) (hN : N 0 = nI len) (hi : i + 5 ≤ len) (hc : ∀ S2 G2, InvE X N S2 G2 → aX mL_law 18 [.ref 1000, .ref 0, .ref 34, .int (nI (i + 5))] [] S2 G2 Q) : aX mL_law 1090 [.ref 1000, .ref 0, .ref 34, .int (nI i)] [] S G Q := by
  have e0 : S 1000 = X := by obtain ⟨w, h, T, nt, nd, b0, b1, ns, hh⟩ := hI; exact hh.2.2.2.2.2.2.1
  have eN : S 1001 = N := by obtain ⟨w, h, T, nt, nd, b0, b1, ns, hh⟩ := hI; exact hh.2.2.2.2.2.2.2
  have l0 : a_len S 1000 = len := by
    show (S 1001 0).toNatClampNeg = len
    rw [eN, hN, tc_n (by omega)]
  have g0 : ∀ j, a_get S 1000 j = X j := fun j => by show S 1000 j = X j; rw [e0]
  have n1_ : nI i + 1 = nI (i + 1) := nI_1 i
  have n2_ : nI i + 2 = nI (i + 2) := nI_add i 2
  have n3_ : nI i + 3 = nI (i + 3) := nI_add i 3
  have n4_ : nI i + 4 = nI (i + 4) := nI_add i 4
  have n5_ : nI i + 5 = nI (i + 5) := nI_add i 5
  obtain ⟨r, S1, G1, S2, G2, h1, h2, h3⟩ := p_again hI (X (i + 1))
  obtain ⟨x, rfl⟩ := okr_int rfl (aX_ok h1)
  have f1 := aX_fx h1
  have e1 : S1 1000 = X := (f1 1000 (by omega)).trans e0
  have l1 : a_len S1 1000 = len := by
    show (S1 1001 0).toNatClampNeg = len
    rw [f1 1001 (by omega), eN, hN, tc_n (by omega)]
  have g1 : ∀ j, a_get S1 1000 j = X j := fun j => by show S1 1000 j = X j; rw [e1]
  simp only [x_L_law_1090, x_L_law_1099, x_L_law_1108, x_L_law_1111, x_L_law_1113, n1_, n2_, n3_, n4_, n5_, l0, g0, l1, g1, ain (show i + 1 < len by omega) (show len ≤ 2147483648 by omega), ain (show i + 2 < len by omega) (show len ≤ 2147483648 by omega), ain (show i + 3 < len by omega) (show len ≤ 2147483648 by omega), ain (show i + 4 < len by omega) (show len ≤ 2147483648 by omega), tc_n (show i + 1 < 2147483648 by omega), tc_n (show i + 2 < 2147483648 by omega), tc_n (show i + 3 < 2147483648 by omega), tc_n (show i + 4 < 2147483648 by omega), a_cls_0, a_cls_34, h1, h2, eq_self_i, cmp_self, a_push_s, a_push_n, true_and, and_true, true_implies, false_implies, implies_true, not_true_eq_false, not_false_eq_true, e_10, e_01, e_11, e_00, or_true, true_or, or_false, false_or, and_self, false_and, and_false, Bool.false_eq_true, if_true, if_false]
  exact hc S2 G2 h3
theorem lw_step {X N : Nat → Int32} {S : aS} {G : aG} {len i : Nat} {Q : aQ} (hI : InvE X N S G) (hl : len ≤ 2560) (hN : N 0 = nI len) (hi : i + 5 ≤ len) (hc : ∀ S2 G2, InvE X N S2 G2 → aX mL_law 18 [.ref 1000, .ref 0, .ref 34, .int (nI (i + 5))] [] S2 G2 Q) : aX mL_law 26 [.ref 1000, .ref 0, .ref 34, .int (nI i)] [] S G Q := by
  have e0 : S 1000 = X := by obtain ⟨w, h, T, nt, nd, b0, b1, ns, hh⟩ := hI; exact hh.2.2.2.2.2.2.1
  have eN : S 1001 = N := by obtain ⟨w, h, T, nt, nd, b0, b1, ns, hh⟩ := hI; exact hh.2.2.2.2.2.2.2
  have l0 : a_len S 1000 = len := by
    show (S 1001 0).toNatClampNeg = len
    rw [eN, hN, tc_n (by omega)]
  have g0 : ∀ j, a_get S 1000 j = X j := fun j => by show S 1000 j = X j; rw [e0]
  rw [x_L_law_26]
  simp only [l0, g0, ain (show i < len by omega) (show len ≤ 2147483648 by omega), tc_n (show i < 2147483648 by omega), true_and]
  refine ⟨fun _ => lw_0 hI hl hN hi hc, fun _ => lw_1 hI hl hN hi hc, fun _ => lw_2 hI hl hN hi hc, fun _ => lw_3 hI hl hN hi hc, fun _ => lw_4 hI hl hN hi hc, fun _ => lw_5 hI hl hN hi hc, fun _ => lw_6 hI hl hN hi hc, fun _ => lw_7 hI hl hN hi hc, fun _ => lw_8 hI hl hN hi hc, fun _ => lw_9 hI hl hN hi hc, fun _ => lw_10 hI hl hN hi hc, fun _ => lw_11 hI hl hN hi hc, fun _ => lw_12 hI hl hN hi hc, fun _ => lw_13 hI hl hN hi hc, fun _ => lw_14 hI hl hN hi hc, fun _ => lw_15 hI hl hN hi hc, fun _ => lw_16 hI hl hN hi hc, fun _ => lw_17 hI hl hN hi hc, fun _ => lw_18 hI hl hN hi hc, fun _ => lw_19 hI hl hN hi hc, fun _ => lw_20 hI hl hN hi hc, fun _ => lw_21 hI hl hN hi hc, fun _ => lw_22 hI hl hN hi hc, fun _ => lw_23 hI hl hN hi hc, fun _ => lw_24 hI hl hN hi hc, fun _ => lw_25 hI hl hN hi hc, fun _ => lw_26 hI hl hN hi hc, fun _ => lw_27 hI hl hN hi hc, fun _ => lw_28 hI hl hN hi hc, fun _ => lw_29 hI hl hN hi hc, fun _ => ?_⟩
  rw [x_L_law_1113, show nI i + 5 = nI (i + 5) from nI_add i 5]
  exact hc S G hI
theorem lw_loop {X N : Nat → Int32} {len : Nat} {Q : aQ} (hl0 : 0 < len) (hl : len ≤ 2560) (hN : N 0 = nI len) (hQ : ∀ S G, Q (some (.int 1)) S G) : ∀ (m i : Nat) (S : aS) (G : aG), len ≤ i + 5 * m → i ≤ 5000 → InvE X N S G → aX mL_law 18 [.ref 1000, .ref 0, .ref 34, .int (nI i)] [] S G Q := by
  intro m
  induction m with
  | zero =>
    intro i S G hm hi5 hI
    have eN : S 1001 = N := by obtain ⟨w, h, T, nt, nd, b0, b1, ns, hh⟩ := hI; exact hh.2.2.2.2.2.2.2
    have l0 : a_len S 1000 = len := by
      show (S 1001 0).toNatClampNeg = len
      rw [eN, hN, tc_n (by omega)]
    have c : (Int32.ofNat len - 5 < nI i) = True := eq_true (by
      rw [lt_i, show Int32.ofNat len - 5 = nI len - nI 5 from rfl, pk_sub_toInt (by omega) (by omega), n_i (by omega)]
      omega)
    rw [x_L_law_18]
    simp only [l0, hl0, c, x_L_law_1119, a_push_s, a_push_n, true_and, and_true, true_implies, false_implies, implies_true, not_true_eq_false, not_false_eq_true, e_10, e_01, e_11, e_00, or_true, true_or, or_false, false_or, and_self, false_and, and_false, Bool.false_eq_true, if_true, if_false]
    exact hQ S G
  | succ m ih =>
    intro i S G hm hi5 hI
    have eN : S 1001 = N := by obtain ⟨w, h, T, nt, nd, b0, b1, ns, hh⟩ := hI; exact hh.2.2.2.2.2.2.2
    have l0 : a_len S 1000 = len := by
      show (S 1001 0).toNatClampNeg = len
      rw [eN, hN, tc_n (by omega)]
    rw [x_L_law_18]
    by_cases q : i + 5 ≤ len
    · have c : (Int32.ofNat len - 5 < nI i) = False := eq_false (by
        rw [lt_i, show Int32.ofNat len - 5 = nI len - nI 5 from rfl, pk_sub_toInt (by omega) (by omega), n_i (by omega)]
        omega)
      simp only [l0, hl0, c, a_push_s, a_push_n, true_and, and_true, true_implies, false_implies, implies_true, not_true_eq_false, not_false_eq_true, e_10, e_01, e_11, e_00, or_true, true_or, or_false, false_or, and_self, false_and, and_false, Bool.false_eq_true, if_true, if_false]
      exact lw_step hI hl hN q fun S2 G2 h2 => ih (i + 5) S2 G2 (by omega) (by omega) h2
    · have c : (Int32.ofNat len - 5 < nI i) = True := eq_true (by
        rw [lt_i, show Int32.ofNat len - 5 = nI len - nI 5 from rfl, pk_sub_toInt (by omega) (by omega), n_i (by omega)]
        omega)
      simp only [l0, hl0, c, x_L_law_1119, a_push_s, a_push_n, true_and, and_true, true_implies, false_implies, implies_true, not_true_eq_false, not_false_eq_true, e_10, e_01, e_11, e_00, or_true, true_or, or_false, false_or, and_self, false_and, and_false, Bool.false_eq_true, if_true, if_false]
      exact hQ S G
