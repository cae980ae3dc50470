/-! SPECKS: dots that hang together -/
def anyB (f : Nat → Bool) (n : Nat) : Bool := it (fun i b => b || f i) false n
theorem anyB_t (f : Nat → Bool) : ∀ n, anyB f n = true ↔ ∃ i, i < n ∧ f i = true
  | 0 => by
    constructor
    · intro h; exact absurd (show false = true from h) (by decide)
    · intro ⟨i, hi, _⟩; omega
  | n + 1 => by
    have e : anyB f (n + 1) = (anyB f n || f n) := rfl
    rw [e, Bool.or_eq_true, anyB_t f n]
    constructor
    · intro h
      rcases h with ⟨i, hi, hf⟩ | hf
      · exact ⟨i, by omega, hf⟩
      · exact ⟨n, by omega, hf⟩
    · intro ⟨i, hi, hf⟩
      rcases Nat.lt_or_ge i n with q | q
      · exact Or.inl ⟨i, q, hf⟩
      · rw [show i = n by omega] at hf; exact Or.inr hf
/-- no bits from n on -/
def lowB (n : Nat) (m : Int32) : Prop := ∀ i, i < 32 → n ≤ i → bt m i = false
theorem mkS_self {n : Nat} {m : Int32} (hn : n ≤ 32) (h : lowB n m) : mkS (bt m) n = m := b_ext fun i hi => by
  rw [mkS_bt _ n hn i hi]
  by_cases c : i < n
  · simp [c]
  · simp [c, h i hi (by omega)]
theorem mkS_low (P : Nat → Bool) {n : Nat} (hn : n ≤ 32) : lowB n (mkS P n) := fun i hi h => by
  rw [mkS_bt _ n hn i hi]; simp; omega
/-- the bits beside, in the class's way: X bars the step up, Y the step down -/
def sdF (X Y g : Int32) : Int32 := (g ||| ((g &&& X) <<< ((1 : Int32) &&& 31))) ||| (((g &&& Y : Int32).toUInt32 >>> ((1 : Int32).toUInt32 &&& Int32.toUInt32 31)).toInt32)
def upN (w : Nat) (s : Int32) : Int32 := (s ||| (s <<< (nI w &&& 31))) ||| ((s.toUInt32 >>> ((nI w).toUInt32 &&& Int32.toUInt32 31)).toInt32)
def fcF (w h : Nat) : Int32 := it (fun r s => s ||| ((1 : Int32) <<< (nI (r * w) &&& 31))) 0 h
def wnF (w h : Nat) (g : Int32) : Int32 := upN w (sdF ((fcF w h <<< ((nI w - 1) &&& 31)) ^^^ (-1)) (fcF w h ^^^ (-1)) g)
theorem sd_bt (X Y g : Int32) {i : Nat} (hi : i < 32) : bt (sdF X Y g) i = ((bt g i || (decide (1 ≤ i) && (bt g (i - 1) && bt X (i - 1)))) || (bt g (1 + i) && bt Y (1 + i))) := by
  unfold sdF
  rw [b_or, b_or, show ((1 : Int32) &&& 31) = (nI 1 &&& 31) from rfl, b_shl 1 (by omega) _ hi, b_and, show (1 : Int32).toUInt32 = (nI 1).toUInt32 from rfl, b_ushr 1 (by omega), b_and]
theorem up_bt {w : Nat} (hw : w < 32) (s : Int32) {i : Nat} (hi : i < 32) : bt (upN w s) i = ((bt s i || (decide (w ≤ i) && bt s (i - w))) || bt s (w + i)) := by
  unfold upN
  rw [b_or, b_or, b_shl w hw _ hi, b_ushr w hw]
theorem sd_or (X Y g g2 : Int32) : sdF X Y (g ||| g2) = sdF X Y g ||| sdF X Y g2 := b_ext fun i hi => by
  rw [b_or, sd_bt _ _ _ hi, sd_bt _ _ _ hi, sd_bt _ _ _ hi, b_or, b_or, b_or]
  generalize bt g i = a1
  generalize bt g2 i = a2
  generalize bt g (i - 1) = a3
  generalize bt g2 (i - 1) = a4
  generalize bt g (1 + i) = a5
  generalize bt g2 (1 + i) = a6
  generalize bt X (i - 1) = a7
  generalize bt Y (1 + i) = a8
  generalize decide (1 ≤ i) = a9
  revert a1 a2 a3 a4 a5 a6 a7 a8 a9
  decide
theorem up_or {w : Nat} (hw : w < 32) (g g2 : Int32) : upN w (g ||| g2) = upN w g ||| upN w g2 := b_ext fun i hi => by
  rw [b_or, up_bt hw _ hi, up_bt hw _ hi, up_bt hw _ hi, b_or, b_or, b_or]
  generalize bt g i = a1
  generalize bt g2 i = a2
  generalize bt g (i - w) = a3
  generalize bt g2 (i - w) = a4
  generalize bt g (w + i) = a5
  generalize bt g2 (w + i) = a6
  generalize decide (w ≤ i) = a7
  revert a1 a2 a3 a4 a5 a6 a7
  decide
theorem wn_or {w h : Nat} (hw : w < 32) (g g2 : Int32) : wnF w h (g ||| g2) = wnF w h g ||| wnF w h g2 := by
  unfold wnF; rw [sd_or, up_or hw]
theorem wn_0 {w h : Nat} (hw : w < 32) : wnF w h 0 = 0 := b_ext fun i hi => by
  have s0 : ∀ X Y j, bt (sdF X Y 0) j = false := fun X Y j => by
    rcases Nat.lt_or_ge j 32 with q | q
    · rw [sd_bt _ _ _ q, b_0, b_0, b_0]; simp
    · exact b_big q
  unfold wnF
  rw [up_bt hw _ hi, s0, s0, s0, b_0]; simp
theorem wn_mkS {w h : Nat} (hw : w < 32) (P : Nat → Bool) {e : Nat} : ∀ k, bt (wnF w h (mkS P k)) e = anyB (fun d => P d && bt (wnF w h ((1 : Int32) <<< (nI d &&& 31))) e) k
  | 0 => by
    rw [show mkS P 0 = 0 from rfl, wn_0 hw, b_0]; rfl
  | k + 1 => by
    have e1 : mkS P (k + 1) = mkS P k ||| (if P k = true then (1 : Int32) <<< (nI k &&& 31) else 0) := rfl
    have e2 : anyB (fun d => P d && bt (wnF w h ((1 : Int32) <<< (nI d &&& 31))) e) (k + 1) = (anyB (fun d => P d && bt (wnF w h ((1 : Int32) <<< (nI d &&& 31))) e) k || (P k && bt (wnF w h ((1 : Int32) <<< (nI k &&& 31))) e)) := rfl
    rw [e1, e2, wn_or hw, b_or, wn_mkS hw P k]
    cases P k with
    | true => simp
    | false => simp [wn_0 hw, b_0]
theorem wnb_all : ((List.range 6).all fun w => (List.range 6).all fun h => (List.range (w * h)).all fun d => (List.range (w * h)).all fun e => (bt (wnF w h ((1 : Int32) <<< (nI d &&& 31))) e == nrB w e d 1)) = true := by decide +kernel
theorem wn_one {w h d e : Nat} (hw : w ≤ 5) (hh : h ≤ 5) (hd : d < w * h) (he : e < w * h) : bt (wnF w h ((1 : Int32) <<< (nI d &&& 31))) e = nrB w e d 1 := by
  have h1 := wnb_all
  simp only [List.all_eq_true, List.mem_range, beq_iff_eq] at h1
  exact h1 w (by omega) h (by omega) d hd e he
/-- what hangs on some, of the ink -/
def nxF (ink : Int32) (w n : Nat) (m : Int32) : Int32 := mkS (fun e => bt ink e && anyB (fun f => bt m f && nrB w e f 1) n) n
theorem anyB_congr {f g : Nat → Bool} {n : Nat} (h : ∀ i, i < n → f i = g i) : anyB f n = anyB g n := it_congr fun i b hi => by rw [h i hi]
theorem and_wn {w h : Nat} {ink g : Int32} (hw : w ≤ 5) (hh : h ≤ 5) (hi : lowB (w * h) ink) (hg : lowB (w * h) g) : ink &&& wnF w h g = nxF ink w (w * h) g := by
  have hn : w * h ≤ 25 := Nat.mul_le_mul hw hh
  apply b_ext
  intro e he
  rw [b_and]
  unfold nxF
  rw [mkS_bt _ _ (by omega) e he]
  by_cases c : e < w * h
  · rw [← mkS_self (by omega) hg, wn_mkS (by omega) (bt g), mkS_self (by omega) hg]
    rw [anyB_congr (g := fun f => bt g f && nrB w e f 1) (fun d hd => by rw [wn_one hw hh hd c])]
    simp [c]
  · simp [c, hi e he (by omega)]
theorem nx_bt (ink : Int32) (w : Nat) {n : Nat} (hn : n ≤ 32) (m : Int32) {e : Nat} (he : e < 32) : bt (nxF ink w n m) e = true ↔ e < n ∧ bt ink e = true ∧ ∃ f, f < n ∧ bt m f = true ∧ nrB w e f 1 = true := by
  unfold nxF
  rw [mkS_bt _ _ hn e he, Bool.and_eq_true, Bool.and_eq_true, decide_eq_true_eq, anyB_t]
  simp only [Bool.and_eq_true]
theorem nx_low (ink : Int32) (w : Nat) {n : Nat} (hn : n ≤ 32) (m : Int32) : lowB n (nxF ink w n m) := mkS_low _ hn
theorem fr_c (a b : Nat) : fr a b = fr b a := by unfold fr; split <;> split <;> omega
theorem nr_c (w e f k : Nat) : nrB w e f k = nrB w f e k := by unfold nrB; rw [fr_c, fr_c (e / w)]
theorem nr_r (w e : Nat) : nrB w e e 1 = true := by
  unfold nrB fr
  simp
/-- the flood: k steps from a start -/
def flF (ink : Int32) (w n : Nat) (s : Int32) (k : Nat) : Int32 := it (fun _ g => nxF ink w n g) s k
theorem fl_s (ink : Int32) (w n : Nat) (s : Int32) (k : Nat) : flF ink w n s (k + 1) = nxF ink w n (flF ink w n s k) := rfl
/-- a start that is one dot of the ink -/
def stOk (ink : Int32) (n d : Nat) : Prop := d < n ∧ n ≤ 25 ∧ lowB n ink ∧ bt ink d = true
def dt1 (d : Nat) : Int32 := (1 : Int32) <<< (nI d &&& 31)
theorem dt1_bt {d i : Nat} (hd : d < 32) (hi : i < 32) : bt (dt1 d) i = true ↔ i = d := by
  unfold dt1; rw [b_1shl hd hi, decide_eq_true_eq]
theorem fl_low {ink : Int32} {w n d : Nat} (h : stOk ink n d) : ∀ k, lowB n (flF ink w n (dt1 d) k)
  | 0 => fun i hi hn => by
    have := h.1
    have h25 := h.2.1
    show bt (dt1 d) i = false
    unfold dt1
    rw [b_1shl (by omega) hi, decide_eq_false (by omega)]
  | k + 1 => by rw [fl_s]; exact nx_low ink w (by have := h.2.1; omega) _
theorem fl_ink {ink : Int32} {w n d : Nat} (h : stOk ink n d) : ∀ k i, i < 32 → bt (flF ink w n (dt1 d) k) i = true → bt ink i = true
  | 0, i, hi, hb => by
    have h1 := h.1
    have h25 := h.2.1
    have := (dt1_bt (by omega) hi).mp hb
    rw [this]; exact h.2.2.2
  | k + 1, i, hi, hb => by
    rw [fl_s, nx_bt ink w (by have := h.2.1; omega) _ hi] at hb
    exact hb.2.1
theorem fl_up {ink : Int32} {w n d : Nat} (h : stOk ink n d) (k : Nat) {i : Nat} (hi : i < 32) (hb : bt (flF ink w n (dt1 d) k) i = true) : bt (flF ink w n (dt1 d) (k + 1)) i = true := by
  have hin : i < n := by
    rcases Nat.lt_or_ge i n with q | q
    · exact q
    · rw [fl_low h k i hi q] at hb; exact absurd hb (by decide)
  rw [fl_s, nx_bt ink w (by have := h.2.1; omega) _ hi]
  exact ⟨hin, fl_ink h k i hi hb, i, hin, hb, nr_r w i⟩
theorem fl_stay {ink : Int32} {w n : Nat} {s : Int32} {k : Nat} (h : flF ink w n s (k + 1) = flF ink w n s k) : ∀ j, flF ink w n s (k + j) = flF ink w n s k
  | 0 => rfl
  | j + 1 => by
    rw [← Nat.add_assoc, fl_s, fl_stay h j, ← fl_s, h]
theorem cntP_lt {P R : Nat → Bool} : ∀ n, (∀ i, i < n → P i = true → R i = true) → (∃ i, i < n ∧ R i = true ∧ ¬ P i = true) → cntP P n < cntP R n
  | 0, _, ⟨i, hi, _⟩ => absurd hi (by omega)
  | n + 1, h, ⟨i, hi, h1, h2⟩ => by
    have e1 : cntP P (n + 1) = cntP P n + (if P n = true then 1 else 0) := rfl
    have e2 : cntP R (n + 1) = cntP R n + (if R n = true then 1 else 0) := rfl
    rw [e1, e2]
    rcases Nat.lt_or_ge i n with q | q
    · have ih := cntP_lt n (fun j hj => h j (by omega)) ⟨i, q, h1, h2⟩
      have := h n (by omega)
      by_cases c : P n = true
      · rw [if_pos c, if_pos (this c)]; omega
      · rw [if_neg c]; split <;> omega
    · have ein : i = n := by omega
      subst ein
      rw [if_neg h2, if_pos h1]
      have : cntP P i ≤ cntP R i := by
        have le : ∀ m, (∀ j, j < m → P j = true → R j = true) → cntP P m ≤ cntP R m := by
          intro m
          induction m with
          | zero => intro _; exact Nat.le_refl 0
          | succ m ihm =>
            intro hm
            have f1 : cntP P (m + 1) = cntP P m + (if P m = true then 1 else 0) := rfl
            have f2 : cntP R (m + 1) = cntP R m + (if R m = true then 1 else 0) := rfl
            have := ihm (fun j hj => hm j (by omega))
            have h3 := hm m (by omega)
            rw [f1, f2]
            by_cases c : P m = true
            · rw [if_pos c, if_pos (h3 c)]; omega
            · rw [if_neg c]; split <;> omega
        exact le i (fun j hj => h j (by omega))
      omega
theorem ne_bit {n : Nat} {a b : Int32} (hn : n ≤ 32) (ha : lowB n a) (hb : lowB n b) (h : a ≠ b) (hab : ∀ i, i < 32 → bt a i = true → bt b i = true) : ∃ i, i < n ∧ bt b i = true ∧ ¬ bt a i = true := by
  refine Classical.byContradiction fun hc => h (b_ext fun i hi => ?_)
  rcases Nat.lt_or_ge i n with q | q
  · cases hx : bt b i with
    | true =>
      cases hy : bt a i with
      | true => rfl
      | false => exact absurd ⟨i, q, hx, by rw [hy]; decide⟩ hc
    | false =>
      cases hy : bt a i with
      | true => rw [hab i hi hy] at hx; exact absurd hx (by decide)
      | false => rfl
  · rw [ha i hi q, hb i hi q]
theorem fl_end {ink : Int32} {w n d : Nat} (h : stOk ink n d) : ∃ K, K ≤ 24 ∧ flF ink w n (dt1 d) (K + 1) = flF ink w n (dt1 d) K ∧ ∀ k, k < K → flF ink w n (dt1 d) (k + 1) ≠ flF ink w n (dt1 d) k := by
  rcases least (P := fun k => flF ink w n (dt1 d) (k + 1) ≠ flF ink w n (dt1 d) k) 25 with hall | ⟨K, h1, h2, h3⟩
  · exfalso
    have h25 := h.2.1
    have grow : ∀ k, k ≤ 25 → k + 1 ≤ cntP (bt (flF ink w n (dt1 d) k)) n := by
      intro k
      induction k with
      | zero =>
        intro _
        have := cntP_lt (P := fun _ => false) (R := bt (flF ink w n (dt1 d) 0)) n (fun i _ hf => absurd hf (by decide)) ⟨d, h.1, (dt1_bt (by have := h.1; omega) (by have := h.1; omega)).mpr rfl, by decide⟩
        omega
      | succ k ih =>
        intro hk
        have i1 := ih (by omega)
        have ne := hall k (by omega)
        have up : ∀ i, i < 32 → bt (flF ink w n (dt1 d) k) i = true → bt (flF ink w n (dt1 d) (k + 1)) i = true := fun i hi hb => fl_up h k hi hb
        have := cntP_lt (P := bt (flF ink w n (dt1 d) k)) (R := bt (flF ink w n (dt1 d) (k + 1))) n (fun i hi hb => up i (by omega) hb) (ne_bit (by omega) (fl_low h k) (fl_low h (k + 1)) (fun z => ne z.symm) up)
        omega
    have g := grow 25 (by omega)
    have := cntP_le (bt (flF ink w n (dt1 d) 25)) n
    omega
  · exact ⟨K, by omega, Classical.byContradiction fun z => h2 z, h3⟩
/-- what hangs together with a dot -/
def cmF (ink : Int32) (w n d : Nat) : Int32 := flF ink w n (dt1 d) 25
theorem cm_of {ink : Int32} {w n d K : Nat} (hK : K ≤ 24) (h : flF ink w n (dt1 d) (K + 1) = flF ink w n (dt1 d) K) : flF ink w n (dt1 d) (K + 1) = cmF ink w n d := by
  have := fl_stay h (25 - K)
  rw [show K + (25 - K) = 25 by omega] at this
  rw [h]; exact this.symm
theorem cm_low {ink : Int32} {w n d : Nat} (h : stOk ink n d) : lowB n (cmF ink w n d) := fl_low h 25
theorem cm_ink {ink : Int32} {w n d : Nat} (h : stOk ink n d) {i : Nat} (hi : i < 32) (hb : bt (cmF ink w n d) i = true) : bt ink i = true := fl_ink h 25 i hi hb
theorem cm_fix {ink : Int32} {w n d : Nat} (h : stOk ink n d) : nxF ink w n (cmF ink w n d) = cmF ink w n d := by
  obtain ⟨K, hK, e, -⟩ := fl_end (w := w) h
  have a := fl_stay e (25 - K)
  have b := fl_stay e (26 - K)
  rw [show K + (25 - K) = 25 by omega] at a
  rw [show K + (26 - K) = 26 by omega] at b
  show nxF ink w n (flF ink w n (dt1 d) 25) = flF ink w n (dt1 d) 25
  rw [← fl_s]
  exact b.trans a.symm
theorem fl_in {ink : Int32} {w n d : Nat} (h : stOk ink n d) : ∀ k, bt (flF ink w n (dt1 d) k) d = true
  | 0 => (dt1_bt (by have := h.1; have := h.2.1; omega) (by have := h.1; have := h.2.1; omega)).mpr rfl
  | k + 1 => fl_up h k (by have := h.1; have := h.2.1; omega) (fl_in h k)
theorem cm_in {ink : Int32} {w n d : Nat} (h : stOk ink n d) : bt (cmF ink w n d) d = true := fl_in h 25
/-- the least set that holds d and is closed -/
theorem cm_least {ink : Int32} {w n d : Nat} (h : stOk ink n d) {A : Int32} (hA : bt A d = true) (hc : ∀ e f, e < n → f < n → bt ink e = true → bt A f = true → nrB w e f 1 = true → bt A e = true) : ∀ k i, i < n → bt (flF ink w n (dt1 d) k) i = true → bt A i = true
  | 0, i, hi, hb => by
    have h1 := h.1
    have h25 := h.2.1
    rw [(dt1_bt (by omega) (by omega)).mp hb]; exact hA
  | k + 1, i, hi, hb => by
    have h25 := h.2.1
    rw [fl_s, nx_bt ink w (by omega) _ (by omega)] at hb
    obtain ⟨-, hk, f, hf, hbf, hnr⟩ := hb
    exact hc i f hi hf hk (cm_least h hA hc k f hf hbf) hnr
theorem cm_closed {ink : Int32} {w n d : Nat} (h : stOk ink n d) : ∀ e f, e < n → f < n → bt ink e = true → bt (cmF ink w n d) f = true → nrB w e f 1 = true → bt (cmF ink w n d) e = true := fun e f he hf hk hb hnr => by
  have h25 := h.2.1
  rw [← cm_fix h, nx_bt ink w (by omega) _ (by omega)]
  exact ⟨he, hk, f, hf, hb, hnr⟩
theorem cm_sym {ink : Int32} {w n d : Nat} (h : stOk ink n d) : ∀ k e, e < n → bt (flF ink w n (dt1 d) k) e = true → bt (cmF ink w n e) d = true
  | 0, e, he, hb => by
    have h1 := h.1
    have h25 := h.2.1
    have := (dt1_bt (by omega) (by omega)).mp hb
    subst this; exact cm_in h
  | k + 1, e, he, hb => by
    have h1 := h.1
    have h25 := h.2.1
    have hb' := hb
    rw [fl_s, nx_bt ink w (by omega) _ (by omega)] at hb'
    obtain ⟨-, hk, f, hf, hbf, hnr⟩ := hb'
    have sf : stOk ink n f := ⟨hf, h25, h.2.2.1, fl_ink h k f (by omega) hbf⟩
    have se : stOk ink n e := ⟨he, h25, h.2.2.1, hk⟩
    have ih := cm_sym h k f hf hbf
    have fe : bt (cmF ink w n e) f = true := cm_closed se f e hf he sf.2.2.2 (cm_in se) (by rw [nr_c]; exact hnr)
    exact cm_least sf fe (cm_closed se) 25 d h1 ih
theorem cm_same {ink : Int32} {w n d e : Nat} (h : stOk ink n d) (he : e < n) (hb : bt (cmF ink w n d) e = true) : cmF ink w n e = cmF ink w n d := by
  have h25 := h.2.1
  have se : stOk ink n e := ⟨he, h25, h.2.2.1, cm_ink h (by omega) hb⟩
  have hd : bt (cmF ink w n e) d = true := cm_sym h 25 e he hb
  apply b_ext
  intro i hi
  rcases Nat.lt_or_ge i n with q | q
  · have a : bt (cmF ink w n e) i = true → bt (cmF ink w n d) i = true := fun z => cm_least se hb (cm_closed h) 25 i q z
    have b : bt (cmF ink w n d) i = true → bt (cmF ink w n e) i = true := fun z => cm_least h hd (cm_closed se) 25 i q z
    cases hx : bt (cmF ink w n e) i with
    | true => exact (a hx).symm
    | false =>
      cases hy : bt (cmF ink w n d) i with
      | true => rw [b hy] at hx; exact absurd hx (by decide)
      | false => rfl
  · rw [cm_low se i hi q, cm_low h i hi q]
