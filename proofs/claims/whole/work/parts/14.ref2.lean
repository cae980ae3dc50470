theorem c_isDark6 {r : Nat} (hr : rr r) (S : aS) (v : Int32) (G : aG) (Q : aQ) : aX mX6_isDark 0 [.ref 34, .ref r, .int v, .null, .null, .null] [] S G Q ↔ bq (dkF (S r 52) (S 34 14) (S 34 15) (S 34 16) v (S r 54) = true) Q S G := by
  have a1 : a_in 52 67 = True := eq_true (by decide)
  have a2 : a_in 54 67 = True := eq_true (by decide)
  simp only [x_X6_isDark_0, x_X6_isDark_18, x_X6_isDark_33, x_X6_isDark_37, x_X6_isDark_38, x_X6_isDark_39, x_X6_isDark_47, x_X6_isDark_53, x_X6_isDark_57, x_X6_isDark_58, x_X6_isDark_59, x_X6_isDark_74, x_X6_isDark_107, x_X6_isDark_111, x_X6_isDark_112, rr_len hr, rr_get hr, a1, a2, tc_52, tc_54, a_cls_34, a_push_s, a_push_n, true_and, and_true, true_implies, false_implies, implies_true, not_true_eq_false, not_false_eq_true, e_10, e_01, e_11, e_00, or_true, true_or, or_false, false_or, and_self, false_and, and_false, Bool.false_eq_true, if_true, if_false, bq, dkF]
  by_cases h0 : S r 52 = 0
  · simp only [h0, a_push_s, a_push_n, true_and, and_true, true_implies, false_implies, implies_true, not_true_eq_false, not_false_eq_true, e_10, e_01, e_11, e_00, or_true, true_or, or_false, false_or, and_self, false_and, and_false, Bool.false_eq_true, if_true, if_false, if_true, decide_eq_true_eq, le_i, lt_i]
    grind
  · by_cases h2 : S r 52 = 2
    · simp only [h0, h2, a_push_s, a_push_n, true_and, and_true, true_implies, false_implies, implies_true, not_true_eq_false, not_false_eq_true, e_10, e_01, e_11, e_00, or_true, true_or, or_false, false_or, and_self, false_and, and_false, Bool.false_eq_true, if_true, if_false, if_true, if_false, decide_eq_true_eq, le_i, lt_i]
      simp only [show ((2 : Int32) = 0) = False by decide, a_push_s, a_push_n, true_and, and_true, true_implies, false_implies, implies_true, not_true_eq_false, not_false_eq_true, e_10, e_01, e_11, e_00, or_true, true_or, or_false, false_or, and_self, false_and, and_false, Bool.false_eq_true, if_true, if_false, if_false, if_true, decide_eq_true_eq, le_i, lt_i]
      grind
    · simp only [h0, h2, a_push_s, a_push_n, true_and, and_true, true_implies, false_implies, implies_true, not_true_eq_false, not_false_eq_true, e_10, e_01, e_11, e_00, or_true, true_or, or_false, false_or, and_self, false_and, and_false, Bool.false_eq_true, if_true, if_false, if_true, if_false, decide_eq_true_eq, le_i, lt_i, ti_0]
      grind
theorem c_underOf {r w h d : Nat} (hr : rr r) {S : aS} (h0 : S r 0 = nI w) (h1 : S r 1 = nI h) (hw : 1 ≤ w ∧ w ≤ 5) (hd : d < 1000) (dx dy : Int32) (G : aG) (Q : aQ) : aX mX6_underOf 0 [.ref r, .int (nI d), .int dx, .int dy, .null, .null] [] S G Q ↔ Q (some (.int (unF w h d dx dy))) S G := by
  have a0 : a_in 0 67 = True := eq_true (by decide)
  have a1 : a_in 1 67 = True := eq_true (by decide)
  have hw0 := ne0_w hw.1 hw.2
  simp only [x_X6_underOf_0, x_X6_underOf_37, x_X6_underOf_40, x_X6_underOf_53, x_X6_underOf_56, x_X6_underOf_68, x_X6_underOf_70, rr_len hr, rr_get hr, a0, a1, tc_0, tc_1, h0, h1, hw0, pk_div (show d < 2 ^ 31 by omega) (show 0 < w by omega) (show w < 2 ^ 31 by omega), rem_n, c_in, i2l_i, tl_0, a_push_s, a_push_n, true_and, and_true, true_implies, false_implies, implies_true, not_true_eq_false, not_false_eq_true, e_10, e_01, e_11, e_00, or_true, true_or, or_false, false_or, and_self, false_and, and_false, Bool.false_eq_true, if_true, if_false, bq, unF]
  by_cases c1 : 0 ≤ (nI w - 1 - nI (d % w) + dx).toInt ∧ (nI w - 1 - nI (d % w) + dx).toInt ≤ (nI w - 1).toInt
  · by_cases c2 : 0 ≤ (nI (d / w) + dy).toInt ∧ (nI (d / w) + dy).toInt ≤ (nI h - 1).toInt
    · simp only [c1, c2, a_push_s, a_push_n, true_and, and_true, true_implies, false_implies, implies_true, not_true_eq_false, not_false_eq_true, e_10, e_01, e_11, e_00, or_true, true_or, or_false, false_or, and_self, false_and, and_false, Bool.false_eq_true, if_true, if_false, if_true]
    · simp only [c1, c2, a_push_s, a_push_n, true_and, and_true, true_implies, false_implies, implies_true, not_true_eq_false, not_false_eq_true, e_10, e_01, e_11, e_00, or_true, true_or, or_false, false_or, and_self, false_and, and_false, Bool.false_eq_true, if_true, if_false, if_false]
  · simp only [c1, a_push_s, a_push_n, true_and, and_true, true_implies, false_implies, implies_true, not_true_eq_false, not_false_eq_true, e_10, e_01, e_11, e_00, or_true, true_or, or_false, false_or, and_self, false_and, and_false, Bool.false_eq_true, if_true, if_false, if_false]
theorem nI_sub1 {w : Nat} (h1 : 1 ≤ w) (h2 : w ≤ 1000) : (nI w - 1).toInt = (w : Int) - 1 := pk_sub_toInt (a := w) (b := 1) (by omega) (by omega)
theorem nI_back {x : Int32} {n : Nat} (h0 : 0 ≤ x.toInt) (h1 : x.toInt < n) : ∃ j, j < n ∧ x = nI j := by
  have hr := i_rng x
  refine ⟨x.toInt.toNat, by omega, ?_⟩
  apply Int32.toInt_inj.mp
  rw [n_i (by omega)]
  omega
theorem unF_rng {w h d : Nat} (hw : 1 ≤ w ∧ w ≤ 5) (hh : 1 ≤ h ∧ h ≤ 5) (dx dy : Int32) : unF w h d dx dy = -9 ∨ ∃ j, j < w * h ∧ unF w h d dx dy = nI j := by
  unfold unF
  split
  · rename_i hc
    right
    rw [nI_sub1 hw.1 (by omega), nI_sub1 hh.1 (by omega)] at hc
    obtain ⟨a, ha, ea⟩ := nI_back hc.1.1 (n := w) (by omega)
    obtain ⟨b, hb, eb⟩ := nI_back hc.2.1 (n := h) (by omega)
    rw [ea, eb, pk_mul, nI_add]
    refine ⟨w * b + a, ?_, rfl⟩
    have : w * b + w ≤ w * h := by rw [← Nat.mul_succ]; exact Nat.mul_le_mul_left w hb
    omega
  · left; rfl
/-- a grey made lighter by what shows through -/
def moF (p : Nat → Int32) (d u : Nat) : Int32 := if p (2 + d) + p (55 + (p (27 + u)).toNatClampNeg) ≤ 9 then p (2 + d) + p (55 + (p (27 + u)).toNatClampNeg) else 9
def mkF (p : Nat → Int32) (w h d k : Nat) (c : Int32) : Int32 :=
  if dkF (p 52) (wF p w (w * h) d k).1 (wF p w (w * h) d k).2.1 (wF p w (w * h) d k).2.2 (p (2 + d)) c = true then
    (if unF w h d (p 65) (p 66) = -9 then 2 else if dkF (p 52) (wF p w (w * h) d k).1 (wF p w (w * h) d k).2.1 (wF p w (w * h) d k).2.2 (moF p d (unF w h d (p 65) (p 66)).toNatClampNeg) c = true then 2 else 1) else 0
/-- a page that may be -/
def pOk (p : Nat → Int32) (w h : Nat) : Prop := (p 0 = nI w ∧ p 1 = nI h ∧ (1 ≤ w ∧ w ≤ 5) ∧ (1 ≤ h ∧ h ≤ 5)) ∧ (∀ d, d < w * h → ∃ g, g ≤ 9 ∧ p (2 + d) = nI g) ∧ (∀ d, d < w * h → ∃ g, g ≤ 9 ∧ p (27 + d) = nI g) ∧ (∃ k, k ≤ 2 ∧ p 52 = nI k) ∧ (∃ k, k ≤ 2 ∧ p 53 = nI k) ∧ (∃ k, k ≤ 9 ∧ p 54 = nI k) ∧ (∀ g, g ≤ 9 → ∃ v, v ≤ 9 ∧ p (55 + g) = nI v) ∧ (-1 ≤ (p 65).toInt ∧ (p 65).toInt ≤ 1) ∧ (-1 ≤ (p 66).toInt ∧ (p 66).toInt ≤ 1)
theorem pOk_n {p : Nat → Int32} {w h : Nat} (hp : pOk p w h) : 1 ≤ w * h ∧ w * h ≤ 25 := by
  obtain ⟨⟨-, -, hw, hh⟩, -⟩ := hp
  exact ⟨Nat.mul_le_mul hw.1 hh.1, Nat.mul_le_mul hw.2 hh.2⟩
set_option maxRecDepth 4000 in
theorem c_markOf6 {r w h d k : Nat} (hr : rr r) {S : aS} (hp : pOk (S r) w h) (hd : d < w * h) (hk : S r 53 = nI k) (hk2 : k < 1000) (G : aG) (Q : aQ) : aX mX6_markOf 0 [.ref 34, .ref r, .int (nI d), .null, .null, .null] [] S G Q ↔ Q (some (.int (mkF (S r) w h d k (S r 54)))) (w3 S (wF (S r) w (w * h) d k)) G := by
  obtain ⟨hn1, hn⟩ := pOk_n hp
  obtain ⟨⟨h0, h1, hw, hh⟩, hf, hb, -, -, -, ht, -, -⟩ := hp
  have hrn := rr_ne hr
  have a1 : a_in 53 67 = True := eq_true (by decide)
  have a2 : a_in 65 67 = True := eq_true (by decide)
  have a3 : a_in 66 67 = True := eq_true (by decide)
  have a4 : a_in (nI (2 + d)) 67 = True := ain (by omega) (by omega)
  have hu := unF_rng hw hh (d := d) (S r 65) (S r 66)
  simp only [x_X6_markOf_0, rr_len hr, rr_get hr, a1, tc_53, hk, a_cls_34, c_layWindow hr h0 h1 hw hh hd hk2, x_X6_markOf_10, add_2, a4, tc_n (show 2 + d < 2147483648 by omega), c_isDark6 hr, w3_row _ _ hrn, w3_14, w3_15, w3_16, x_X6_markOf_22, x_X6_markOf_25, x_X6_markOf_27, a2, a3, tc_65, tc_66, c_underOf hr (S := w3 S (wF (S r) w (w * h) d k)) (by rw [w3_row _ _ hrn]; exact h0) (by rw [w3_row _ _ hrn]; exact h1) hw (show d < 1000 by omega), x_X6_markOf_40, x_X6_markOf_49, a_push_s, a_push_n, true_and, and_true, true_implies, false_implies, implies_true, not_true_eq_false, not_false_eq_true, e_10, e_01, e_11, e_00, or_true, true_or, or_false, false_or, and_self, false_and, and_false, Bool.false_eq_true, if_true, if_false, bq, mkF]
  by_cases c1 : dkF (S r 52) (wF (S r) w (w * h) d k).1 (wF (S r) w (w * h) d k).2.1 (wF (S r) w (w * h) d k).2.2 (S r (2 + d)) (S r 54) = true
  · simp only [c1, a_push_s, a_push_n, true_and, and_true, true_implies, false_implies, implies_true, not_true_eq_false, not_false_eq_true, e_10, e_01, e_11, e_00, or_true, true_or, or_false, false_or, and_self, false_and, and_false, Bool.false_eq_true, if_true, if_false, if_true]
    by_cases c2 : unF w h d (S r 65) (S r 66) = -9
    · simp only [c2, a_push_s, a_push_n, true_and, and_true, true_implies, false_implies, implies_true, not_true_eq_false, not_false_eq_true, e_10, e_01, e_11, e_00, or_true, true_or, or_false, false_or, and_self, false_and, and_false, Bool.false_eq_true, if_true, if_false, if_true]
    · obtain ⟨u, hu1, hu2⟩ := hu.resolve_left c2
      obtain ⟨g, hg1, hg2⟩ := hb u hu1
      have n9 : (nI u = -9) = False := by rw [← hu2]; exact eq_false c2
      have b1 : a_in (nI (27 + u)) 67 = True := ain (by omega) (by omega)
      have b2 : a_in (nI (55 + g)) 67 = True := ain (by omega) (by omega)
      simp only [hu2, n9, a_push_s, a_push_n, true_and, and_true, true_implies, false_implies, implies_true, not_true_eq_false, not_false_eq_true, e_10, e_01, e_11, e_00, or_true, true_or, or_false, false_or, and_self, false_and, and_false, Bool.false_eq_true, if_true, if_false, if_false, x_X6_markOf_51, rr_len hr, rr_get hr, add_27, b1, tc_n (show 27 + u < 2147483648 by omega), w3_row _ _ hrn, hg2, add_55, b2, tc_n (show 55 + g < 2147483648 by omega), x_X6_markOf_76, x_X6_markOf_81, x_X6_markOf_83, a_cls_34, c_isDark6 hr, w3_14, w3_15, w3_16, x_X6_markOf_86, x_X6_markOf_89, x_X6_markOf_93, x_X6_markOf_94, bq, moF, tc_n (show u < 2147483648 by omega), tc_n (show g < 2147483648 by omega)]
      by_cases c3 : S r (2 + d) + S r (55 + g) ≤ 9
      · simp only [c3, a_push_s, a_push_n, true_and, and_true, true_implies, false_implies, implies_true, not_true_eq_false, not_false_eq_true, e_10, e_01, e_11, e_00, or_true, true_or, or_false, false_or, and_self, false_and, and_false, Bool.false_eq_true, if_true, if_false, if_true]
        split
        · rename_i c4; simp only [c4, a_push_s, a_push_n, true_and, and_true, true_implies, false_implies, implies_true, not_true_eq_false, not_false_eq_true, e_10, e_01, e_11, e_00, or_true, true_or, or_false, false_or, and_self, false_and, and_false, Bool.false_eq_true, if_true, if_false]
        · rename_i c4; simp only [c4, a_push_s, a_push_n, true_and, and_true, true_implies, false_implies, implies_true, not_true_eq_false, not_false_eq_true, e_10, e_01, e_11, e_00, or_true, true_or, or_false, false_or, and_self, false_and, and_false, Bool.false_eq_true, if_true, if_false]
      · simp only [c3, a_push_s, a_push_n, true_and, and_true, true_implies, false_implies, implies_true, not_true_eq_false, not_false_eq_true, e_10, e_01, e_11, e_00, or_true, true_or, or_false, false_or, and_self, false_and, and_false, Bool.false_eq_true, if_true, if_false, if_false]
        split
        · rename_i c4; simp only [c4, a_push_s, a_push_n, true_and, and_true, true_implies, false_implies, implies_true, not_true_eq_false, not_false_eq_true, e_10, e_01, e_11, e_00, or_true, true_or, or_false, false_or, and_self, false_and, and_false, Bool.false_eq_true, if_true, if_false]
        · rename_i c4; simp only [c4, a_push_s, a_push_n, true_and, and_true, true_implies, false_implies, implies_true, not_true_eq_false, not_false_eq_true, e_10, e_01, e_11, e_00, or_true, true_or, or_false, false_or, and_self, false_and, and_false, Bool.false_eq_true, if_true, if_false]
  · simp only [c1, a_push_s, a_push_n, true_and, and_true, true_implies, false_implies, implies_true, not_true_eq_false, not_false_eq_true, e_10, e_01, e_11, e_00, or_true, true_or, or_false, false_or, and_self, false_and, and_false, Bool.false_eq_true, if_true, if_false, if_false]
/-- only the reference's own scratch numbers have changed -/
def rw6 (S S' : aS) : Prop := (∀ k, k ≠ 34 → S' k = S k) ∧ ∀ j, ((1 ≤ j ∧ j ≤ 13) ∨ 21 ≤ j) → S' 34 j = S 34 j
theorem rw6_refl (S : aS) : rw6 S S := ⟨fun _ _ => rfl, fun _ _ => rfl⟩
theorem rw6_trans {S S' S2 : aS} (h : rw6 S S') (h2 : rw6 S' S2) : rw6 S S2 := ⟨fun k hk => (h2.1 k hk).trans (h.1 k hk), fun j hj => (h2.2 j hj).trans (h.2 j hj)⟩
theorem rw6_w3 (S : aS) (t : Int32 × Int32 × Int32) : rw6 S (w3 S t) := ⟨fun k hk => w3_row S t hk, fun j hj => by
  have h1 : j ≠ 14 := by omega
  have h2 : j ≠ 15 := by omega
  have h3 : j ≠ 16 := by omega
  simp [w3, a_pf, a_wr, upd, h1, h2, h3]⟩
theorem rw6_pf (S : aS) {j : Nat} (v : Int32) (hj : j = 0 ∨ (14 ≤ j ∧ j ≤ 20)) : rw6 S (a_pf S 34 j v) := ⟨fun k hk => a_pf_row S j v hk, fun i hi => a_pf_ne S 34 v (by omega)⟩
def inkF (p : Nat → Int32) (w h k : Nat) (c : Int32) : Int32 := it (fun d s => s ||| (if mkF p w h d k c = 2 then (1 : Int32) <<< (nI d &&& 31) else 0)) 0 (w * h)
theorem c_inkOf {r w h k : Nat} (hr : rr r) {S : aS} (hp : pOk (S r) w h) (hk : S r 53 = nI k) (hk2 : k < 1000) (G : aG) : ∃ S', rw6 S S' ∧ ∀ Q, (aX mX6_inkOf 0 [.ref 34, .ref r, .null, .null] [] S G Q ↔ Q (some (.int (inkF (S r) w h k (S r 54)))) S' G) := by
  obtain ⟨hn1, hn⟩ := pOk_n hp
  have hp' := hp
  obtain ⟨⟨h0, h1, hw, hh⟩, -⟩ := hp'
  have hrn := rr_ne hr
  obtain ⟨S', hS', hX⟩ := lpx (P := fun i S' Q => aX mX6_inkOf 4 [.ref 34, .ref r, .int (it (fun d s => s ||| (if mkF (S r) w h d k (S r 54) = 2 then (1 : Int32) <<< (nI d &&& 31) else 0)) 0 i), .int (nI i)] [] S' G Q) (I := fun _ S' => rw6 S S') (Nat.zero_le (w * h)) (fun i T _ hi hT => by
    have e := hT.1 r hrn
    refine ⟨w3 T (wF (T r) w (w * h) i k), rw6_trans hT (rw6_w3 _ _), fun Q => ?_⟩
    have hc : ¬ nI (w * h) ≤ nI i := by rw [le_i, n_i (by omega), n_i (by omega)]; omega
    refine (x_X6_inkOf_4 _ _ _ _ _ _ _).trans ?_
    simp only [c_dotsOf hr (S := T) (by rw [e]; exact h0) (by rw [e]; exact h1), x_X6_inkOf_9, hc, x_X6_inkOf_12, a_cls_34, c_markOf6 hr (S := T) (d := i) (k := k) (by rw [e]; exact hp) hi (by rw [e]; exact hk) hk2, x_X6_inkOf_19, x_X6_inkOf_23, x_X6_inkOf_29, x_X6_inkOf_30, e, nI_1, it_succ, a_push_s, a_push_n, true_and, and_true, true_implies, false_implies, implies_true, not_true_eq_false, not_false_eq_true, e_10, e_01, e_11, e_00, or_true, true_or, or_false, false_or, and_self, false_and, and_false, Bool.false_eq_true, if_true, if_false]
    by_cases c1 : mkF (S r) w h i k (S r 54) = 2
    · simp only [c1, a_push_s, a_push_n, true_and, and_true, true_implies, false_implies, implies_true, not_true_eq_false, not_false_eq_true, e_10, e_01, e_11, e_00, or_true, true_or, or_false, false_or, and_self, false_and, and_false, Bool.false_eq_true, if_true, if_false, if_true]
    · simp only [c1, a_push_s, a_push_n, true_and, and_true, true_implies, false_implies, implies_true, not_true_eq_false, not_false_eq_true, e_10, e_01, e_11, e_00, or_true, true_or, or_false, false_or, and_self, false_and, and_false, Bool.false_eq_true, if_true, if_false, if_false]) S (rw6_refl S)
  refine ⟨S', hS', fun Q => ?_⟩
  have e := hS'.1 r hrn
  have hc : nI (w * h) ≤ nI (w * h) := by rw [le_i]; exact Int.le_refl _
  rw [x_X6_inkOf_0]
  refine (hX Q).trans ?_
  simp only [x_X6_inkOf_4, c_dotsOf hr (S := S') (by rw [e]; exact h0) (by rw [e]; exact h1), x_X6_inkOf_9, hc, x_X6_inkOf_38, a_push_s, a_push_n, true_and, and_true, true_implies, false_implies, implies_true, not_true_eq_false, not_false_eq_true, e_10, e_01, e_11, e_00, or_true, true_or, or_false, false_or, and_self, false_and, and_false, Bool.false_eq_true, if_true, if_false]
  exact Iff.rfl
