/-! DOINGS -/
theorem upd_same (f : Nat → Int32) (i : Nat) (v : Int32) : upd f i v i = v := by simp [upd]
theorem upd_ne (f : Nat → Int32) {i j : Nat} (v : Int32) (h : j ≠ i) : upd f i v j = f j := by simp [upd, h]
theorem upd_row (S : aS) (a i : Nat) (v : Int32) : a_pf S a i v a = upd (S a) i v := by simp [a_pf, a_wr]
theorem sh_front {S : aS} {a w h d : Nat} {p : Nat → Int32} (hs : sh S a p w h) (hn : w * h ≤ 25) (hd : d < w * h) (v : Int32) : sh (a_pf S (a + 1) d v) a (upd p (2 + d) v) w h := by
  obtain ⟨ha, h1, h2, h3, h4, ⟨h5, h6, h7⟩, h8, h9, h10⟩ := hs
  refine ⟨ha, ?_, ?_, fun e he => ?_, fun e he => ?_, ⟨?_, ?_, ?_⟩, fun g hg => ?_, ?_, ?_⟩
  · rw [a_pf_row _ _ _ (by omega), upd_ne _ _ (by omega)]; exact h1
  · rw [a_pf_row _ _ _ (by omega), upd_ne _ _ (by omega)]; exact h2
  · by_cases c : e = d
    · subst c; rw [a_pf_same, upd_same]
    · rw [a_pf_ne _ _ _ c, upd_ne _ _ (by omega)]; exact h3 e he
  · rw [a_pf_row _ _ _ (by omega), upd_ne _ _ (by omega)]; exact h4 e he
  · rw [a_pf_row _ _ _ (by omega), upd_ne _ _ (by omega)]; exact h5
  · rw [a_pf_row _ _ _ (by omega), upd_ne _ _ (by omega)]; exact h6
  · rw [a_pf_row _ _ _ (by omega), upd_ne _ _ (by omega)]; exact h7
  · rw [a_pf_row _ _ _ (by omega), upd_ne _ _ (by omega)]; exact h8 g hg
  · rw [a_pf_row _ _ _ (by omega), upd_ne _ _ (by omega)]; exact h9
  · rw [a_pf_row _ _ _ (by omega), upd_ne _ _ (by omega)]; exact h10
theorem sh_back {S : aS} {a w h d : Nat} {p : Nat → Int32} (hs : sh S a p w h) (hn : w * h ≤ 25) (hd : d < w * h) (v : Int32) : sh (a_pf S (a + 2) d v) a (upd p (27 + d) v) w h := by
  obtain ⟨ha, h1, h2, h3, h4, ⟨h5, h6, h7⟩, h8, h9, h10⟩ := hs
  refine ⟨ha, ?_, ?_, fun e he => ?_, fun e he => ?_, ⟨?_, ?_, ?_⟩, fun g hg => ?_, ?_, ?_⟩
  · rw [a_pf_row _ _ _ (by omega), upd_ne _ _ (by omega)]; exact h1
  · rw [a_pf_row _ _ _ (by omega), upd_ne _ _ (by omega)]; exact h2
  · rw [a_pf_row _ _ _ (by omega), upd_ne _ _ (by omega)]; exact h3 e he
  · by_cases c : e = d
    · subst c; rw [a_pf_same, upd_same]
    · rw [a_pf_ne _ _ _ c, upd_ne _ _ (by omega)]; exact h4 e he
  · rw [a_pf_row _ _ _ (by omega), upd_ne _ _ (by omega)]; exact h5
  · rw [a_pf_row _ _ _ (by omega), upd_ne _ _ (by omega)]; exact h6
  · rw [a_pf_row _ _ _ (by omega), upd_ne _ _ (by omega)]; exact h7
  · rw [a_pf_row _ _ _ (by omega), upd_ne _ _ (by omega)]; exact h8 g hg
  · rw [a_pf_row _ _ _ (by omega), upd_ne _ _ (by omega)]; exact h9
  · rw [a_pf_row _ _ _ (by omega), upd_ne _ _ (by omega)]; exact h10
theorem sh_table {S : aS} {a w h g : Nat} {p : Nat → Int32} (hs : sh S a p w h) (hn : w * h ≤ 25) (hg : g ≤ 9) (v : Int32) : sh (a_pf S (a + 3) g v) a (upd p (55 + g) v) w h := by
  obtain ⟨ha, h1, h2, h3, h4, ⟨h5, h6, h7⟩, h8, h9, h10⟩ := hs
  refine ⟨ha, ?_, ?_, fun e he => ?_, fun e he => ?_, ⟨?_, ?_, ?_⟩, fun e he => ?_, ?_, ?_⟩
  · rw [a_pf_row _ _ _ (by omega), upd_ne _ _ (by omega)]; exact h1
  · rw [a_pf_row _ _ _ (by omega), upd_ne _ _ (by omega)]; exact h2
  · rw [a_pf_row _ _ _ (by omega), upd_ne _ _ (by omega)]; exact h3 e he
  · rw [a_pf_row _ _ _ (by omega), upd_ne _ _ (by omega)]; exact h4 e he
  · rw [a_pf_row _ _ _ (by omega), upd_ne _ _ (by omega)]; exact h5
  · rw [a_pf_row _ _ _ (by omega), upd_ne _ _ (by omega)]; exact h6
  · rw [a_pf_row _ _ _ (by omega), upd_ne _ _ (by omega)]; exact h7
  · by_cases c : e = g
    · subst c; rw [a_pf_same, upd_same]
    · rw [a_pf_ne _ _ _ c, upd_ne _ _ (by omega)]; exact h8 e he
  · rw [a_pf_row _ _ _ (by omega), upd_ne _ _ (by omega)]; exact h9
  · rw [a_pf_row _ _ _ (by omega), upd_ne _ _ (by omega)]; exact h10
theorem sh_rule {S : aS} {a w h : Nat} {p : Nat → Int32} (hs : sh S a p w h) (hn : w * h ≤ 25) (x y z : Int32) : sh (a_pf (a_pf (a_pf S a 5 x) a 6 y) a 7 z) a (upd (upd (upd p 52 x) 53 y) 54 z) w h := by
  obtain ⟨ha, h1, h2, h3, h4, ⟨h5, h6, h7⟩, h8, h9, h10⟩ := hs
  have f : ∀ i, i ≠ 5 → i ≠ 6 → i ≠ 7 → (a_pf (a_pf (a_pf S a 5 x) a 6 y) a 7 z) a i = S a i := fun i h1 h2 h3 => by rw [a_pf_ne _ _ _ h3, a_pf_ne _ _ _ h2, a_pf_ne _ _ _ h1]
  have r : ∀ c, c ≠ a → (a_pf (a_pf (a_pf S a 5 x) a 6 y) a 7 z) c = S c := fun c h => by rw [a_pf_row _ _ _ h, a_pf_row _ _ _ h, a_pf_row _ _ _ h]
  have u : ∀ i, i ≠ 52 → i ≠ 53 → i ≠ 54 → upd (upd (upd p 52 x) 53 y) 54 z i = p i := fun i h1 h2 h3 => by rw [upd_ne _ _ h3, upd_ne _ _ h2, upd_ne _ _ h1]
  refine ⟨ha, ?_, ?_, fun e he => ?_, fun e he => ?_, ⟨?_, ?_, ?_⟩, fun e he => ?_, ?_, ?_⟩
  · rw [f _ (by omega) (by omega) (by omega), u _ (by omega) (by omega) (by omega)]; exact h1
  · rw [f _ (by omega) (by omega) (by omega), u _ (by omega) (by omega) (by omega)]; exact h2
  · rw [r _ (by omega), u _ (by omega) (by omega) (by omega)]; exact h3 e he
  · rw [r _ (by omega), u _ (by omega) (by omega) (by omega)]; exact h4 e he
  · rw [a_pf_ne _ _ _ (by decide), a_pf_ne _ _ _ (by decide), a_pf_same, upd_ne _ _ (by decide), upd_ne _ _ (by decide), upd_same]
  · rw [a_pf_ne _ _ _ (by decide), a_pf_same, upd_ne _ _ (by decide), upd_same]
  · rw [a_pf_same, upd_same]
  · rw [r _ (by omega), u _ (by omega) (by omega) (by omega)]; exact h8 e he
  · rw [f _ (by omega) (by omega) (by omega), u _ (by omega) (by omega) (by omega)]; exact h9
  · rw [f _ (by omega) (by omega) (by omega), u _ (by omega) (by omega) (by omega)]; exact h10
theorem sh_lie {S : aS} {a w h : Nat} {p : Nat → Int32} (hs : sh S a p w h) (hn : w * h ≤ 25) (x y : Int32) : sh (a_pf (a_pf S a 8 x) a 9 y) a (upd (upd p 65 x) 66 y) w h := by
  obtain ⟨ha, h1, h2, h3, h4, ⟨h5, h6, h7⟩, h8, h9, h10⟩ := hs
  have f : ∀ i, i ≠ 8 → i ≠ 9 → (a_pf (a_pf S a 8 x) a 9 y) a i = S a i := fun i h1 h2 => by rw [a_pf_ne _ _ _ h2, a_pf_ne _ _ _ h1]
  have r : ∀ c, c ≠ a → (a_pf (a_pf S a 8 x) a 9 y) c = S c := fun c h => by rw [a_pf_row _ _ _ h, a_pf_row _ _ _ h]
  have u : ∀ i, i ≠ 65 → i ≠ 66 → upd (upd p 65 x) 66 y i = p i := fun i h1 h2 => by rw [upd_ne _ _ h2, upd_ne _ _ h1]
  refine ⟨ha, ?_, ?_, fun e he => ?_, fun e he => ?_, ⟨?_, ?_, ?_⟩, fun e he => ?_, ?_, ?_⟩
  · rw [f _ (by omega) (by omega), u _ (by omega) (by omega)]; exact h1
  · rw [f _ (by omega) (by omega), u _ (by omega) (by omega)]; exact h2
  · rw [r _ (by omega), u _ (by omega) (by omega)]; exact h3 e he
  · rw [r _ (by omega), u _ (by omega) (by omega)]; exact h4 e he
  · rw [f _ (by omega) (by omega), u _ (by omega) (by omega)]; exact h5
  · rw [f _ (by omega) (by omega), u _ (by omega) (by omega)]; exact h6
  · rw [f _ (by omega) (by omega), u _ (by omega) (by omega)]; exact h7
  · rw [r _ (by omega), u _ (by omega) (by omega)]; exact h8 e he
  · rw [a_pf_ne _ _ _ (by decide), a_pf_same, upd_ne _ _ (by decide), upd_same]
  · rw [a_pf_same, upd_same]
theorem pOk_front {p : Nat → Int32} {w h d g : Nat} (hp : pOk p w h) (hd : d < w * h) (hg : g ≤ 9) : pOk (upd p (2 + d) (nI g)) w h := by
  have hn := pOk_n hp
  obtain ⟨⟨h0, h1, hw, hh⟩, h2, h3, h4, h5, h6, h7, h8, h9⟩ := hp
  refine ⟨⟨by rw [upd_ne _ _ (by omega)]; exact h0, by rw [upd_ne _ _ (by omega)]; exact h1, hw, hh⟩, fun e he => ?_, fun e he => by rw [upd_ne _ _ (by omega)]; exact h3 e he, by rw [upd_ne _ _ (by omega)]; exact h4, by rw [upd_ne _ _ (by omega)]; exact h5, by rw [upd_ne _ _ (by omega)]; exact h6, fun e he => by rw [upd_ne _ _ (by omega)]; exact h7 e he, by rw [upd_ne _ _ (by omega)]; exact h8, by rw [upd_ne _ _ (by omega)]; exact h9⟩
  by_cases c : e = d
  · subst c; rw [upd_same]; exact ⟨g, hg, rfl⟩
  · rw [upd_ne _ _ (by omega)]; exact h2 e he
theorem pOk_back {p : Nat → Int32} {w h d g : Nat} (hp : pOk p w h) (hd : d < w * h) (hg : g ≤ 9) : pOk (upd p (27 + d) (nI g)) w h := by
  have hn := pOk_n hp
  obtain ⟨⟨h0, h1, hw, hh⟩, h2, h3, h4, h5, h6, h7, h8, h9⟩ := hp
  refine ⟨⟨by rw [upd_ne _ _ (by omega)]; exact h0, by rw [upd_ne _ _ (by omega)]; exact h1, hw, hh⟩, fun e he => by rw [upd_ne _ _ (by omega)]; exact h2 e he, fun e he => ?_, by rw [upd_ne _ _ (by omega)]; exact h4, by rw [upd_ne _ _ (by omega)]; exact h5, by rw [upd_ne _ _ (by omega)]; exact h6, fun e he => by rw [upd_ne _ _ (by omega)]; exact h7 e he, by rw [upd_ne _ _ (by omega)]; exact h8, by rw [upd_ne _ _ (by omega)]; exact h9⟩
  by_cases c : e = d
  · subst c; rw [upd_same]; exact ⟨g, hg, rfl⟩
  · rw [upd_ne _ _ (by omega)]; exact h3 e he
theorem pOk_table {p : Nat → Int32} {w h d g : Nat} (hp : pOk p w h) (hd : d ≤ 9) (hg : g ≤ 9) : pOk (upd p (55 + d) (nI g)) w h := by
  have hn := pOk_n hp
  obtain ⟨⟨h0, h1, hw, hh⟩, h2, h3, h4, h5, h6, h7, h8, h9⟩ := hp
  refine ⟨⟨by rw [upd_ne _ _ (by omega)]; exact h0, by rw [upd_ne _ _ (by omega)]; exact h1, hw, hh⟩, fun e he => by rw [upd_ne _ _ (by omega)]; exact h2 e he, fun e he => by rw [upd_ne _ _ (by omega)]; exact h3 e he, by rw [upd_ne _ _ (by omega)]; exact h4, by rw [upd_ne _ _ (by omega)]; exact h5, by rw [upd_ne _ _ (by omega)]; exact h6, fun e he => ?_, by rw [upd_ne _ _ (by omega)]; exact h8, by rw [upd_ne _ _ (by omega)]; exact h9⟩
  by_cases c : e = d
  · subst c; rw [upd_same]; exact ⟨g, hg, rfl⟩
  · rw [upd_ne _ _ (by omega)]; exact h7 e he
theorem pOk_rule {p : Nat → Int32} {w h x y z : Nat} (hp : pOk p w h) (hx : x ≤ 2) (hy : y ≤ 2) (hz : z ≤ 9) : pOk (upd (upd (upd p 52 (nI x)) 53 (nI y)) 54 (nI z)) w h := by
  have hn := pOk_n hp
  obtain ⟨⟨h0, h1, hw, hh⟩, h2, h3, h4, h5, h6, h7, h8, h9⟩ := hp
  have u : ∀ i, i ≠ 52 → i ≠ 53 → i ≠ 54 → upd (upd (upd p 52 (nI x)) 53 (nI y)) 54 (nI z) i = p i := fun i h1 h2 h3 => by rw [upd_ne _ _ h3, upd_ne _ _ h2, upd_ne _ _ h1]
  exact ⟨⟨by rw [u _ (by omega) (by omega) (by omega)]; exact h0, by rw [u _ (by omega) (by omega) (by omega)]; exact h1, hw, hh⟩, fun e he => by rw [u _ (by omega) (by omega) (by omega)]; exact h2 e he, fun e he => by rw [u _ (by omega) (by omega) (by omega)]; exact h3 e he, ⟨x, hx, by rw [upd_ne _ _ (by decide), upd_ne _ _ (by decide), upd_same]⟩, ⟨y, hy, by rw [upd_ne _ _ (by decide), upd_same]⟩, ⟨z, hz, by rw [upd_same]⟩, fun e he => by rw [u _ (by omega) (by omega) (by omega)]; exact h7 e he, by rw [u _ (by omega) (by omega) (by omega)]; exact h8, by rw [u _ (by omega) (by omega) (by omega)]; exact h9⟩
theorem pOk_lie {p : Nat → Int32} {w h : Nat} {x y : Int32} (hp : pOk p w h) (hx : -1 ≤ x.toInt ∧ x.toInt ≤ 1) (hy : -1 ≤ y.toInt ∧ y.toInt ≤ 1) : pOk (upd (upd p 65 x) 66 y) w h := by
  have hn := pOk_n hp
  obtain ⟨⟨h0, h1, hw, hh⟩, h2, h3, h4, h5, h6, h7, h8, h9⟩ := hp
  have u : ∀ i, i ≠ 65 → i ≠ 66 → upd (upd p 65 x) 66 y i = p i := fun i h1 h2 => by rw [upd_ne _ _ h2, upd_ne _ _ h1]
  exact ⟨⟨by rw [u _ (by omega) (by omega)]; exact h0, by rw [u _ (by omega) (by omega)]; exact h1, hw, hh⟩, fun e he => by rw [u _ (by omega) (by omega)]; exact h2 e he, fun e he => by rw [u _ (by omega) (by omega)]; exact h3 e he, by rw [u _ (by omega) (by omega)]; exact h4, by rw [u _ (by omega) (by omega)]; exact h5, by rw [u _ (by omega) (by omega)]; exact h6, fun e he => by rw [u _ (by omega) (by omega)]; exact h7 e he, by rw [upd_ne _ _ (by decide), upd_same]; exact hx, by rw [upd_same]; exact hy⟩
theorem pOk_light {p : Nat → Int32} {w h : Nat} {b : Int32} (hp : pOk p w h) (hc : clF p b (w * h)) : pOk (liF p b (w * h)) w h := by
  rw [liF_fp]
  exact pOk_fp hp fun d hd => by
    obtain ⟨g, hg, e⟩ := nI_back (hc d hd).1 (n := 10) (by have := (hc d hd).2; omega)
    exact ⟨g, by omega, e⟩
theorem sh_light {S : aS} {a w h : Nat} {p : Nat → Int32} (hs : sh S a p w h) (hp : pOk p w h) (b : Int32) : sh (a_wr S (a + 1) (fun j => if j < w * h then S (a + 1) j + b else S (a + 1) j)) a (liF p b (w * h)) w h := by
  have e : liF p b (w * h) = fpF p (fun j => if j < w * h then S (a + 1) j + b else S (a + 1) j) (w * h) := by
    funext j
    unfold liF fpF
    by_cases c : 2 ≤ j ∧ j < 2 + w * h
    · rw [if_pos c, if_pos c]
      show _ = if j - 2 < w * h then S (a + 1) (j - 2) + b else S (a + 1) (j - 2)
      rw [if_pos (by omega), hs.2.2.2.1 _ (by omega), show 2 + (j - 2) = j by omega]
    · rw [if_neg c, if_neg c]
  rw [e]
  exact sh_fp _ hs hp
theorem eqP_refl (p : Nat → Int32) : eqP p p := fun _ _ => rfl
theorem eqP_upd {p q : Nat → Int32} (h : eqP p q) (i : Nat) (v : Int32) : eqP (upd p i v) (upd q i v) := fun j hj => by
  by_cases c : j = i
  · subst c; rw [upd_same, upd_same]
  · rw [upd_ne _ _ c, upd_ne _ _ c]; exact h j hj
theorem eqP_li {p q : Nat → Int32} (h : eqP p q) (b : Int32) (n : Nat) : eqP (liF p b n) (liF q b n) := fun j hj => by
  unfold liF; rw [h j hj]
theorem eqP_trans {p q r : Nat → Int32} (h : eqP p q) (h2 : eqP q r) : eqP p r := fun j hj => (h j hj).trans (h2 j hj)
theorem eqP_symm {p q : Nat → Int32} (h : eqP p q) : eqP q p := fun j hj => (h j hj).symm
theorem unOk_ext {k f s t : Int32} {q p q2 p2 : Nat → Int32} {w h : Nat} (hu : unOk k f s t q p w h) (h1 : eqP q2 q) (h2 : eqP p2 p) : unOk k f s t q2 p2 w h := by
  have h1' := eqP_symm h1
  rcases hu with ⟨a, b, d, c1, c2, c3⟩ | ⟨a, c⟩ | ⟨a, c⟩ | ⟨a, g, c1, c2, c3⟩ | ⟨a, c⟩
  · exact Or.inl ⟨a, b, d, c1, c2, eqP_trans h2 (eqP_trans c3 (eqP_upd h1' _ _))⟩
  · exact Or.inr (Or.inl ⟨a, eqP_trans h2 (eqP_trans c (eqP_li h1' _ _))⟩)
  · exact Or.inr (Or.inr (Or.inl ⟨a, eqP_trans h2 (eqP_trans c (eqP_upd (eqP_upd (eqP_upd h1' _ _) _ _) _ _))⟩))
  · exact Or.inr (Or.inr (Or.inr (Or.inl ⟨a, g, c1, c2, eqP_trans h2 (eqP_trans c3 (eqP_upd h1' _ _))⟩)))
  · exact Or.inr (Or.inr (Or.inr (Or.inr ⟨a, eqP_trans h2 (eqP_trans c (eqP_upd (eqP_upd h1' _ _) _ _))⟩)))
theorem do_note {S S2 : aS} {n w h m o : Nat} {k f s t : Int32} (hd : doOk S n w h) (hm : m + o = n) (hm2 : m < 14) (hp : pOk (S 37) w h) (h25 : S2 25 4 = nI (m + 1)) (h34 : S2 34 7 = nI (m + 1)) (hA : ∀ i, i < m → S2 26 i = S 26 (i + o) ∧ S2 27 i = S 27 (i + o) ∧ S2 28 i = S 28 (i + o) ∧ S2 29 i = S 29 (i + o)) (hN : S2 26 m = k ∧ S2 27 m = f ∧ S2 28 m = s ∧ S2 29 m = t) (hB : ∀ i j, i < m → j < 67 → S2 39 (67 * i + j) = S 39 (67 * (i + o) + j)) (hC : ∀ j, j < 67 → S2 39 (67 * m + j) = S 37 j) (hu : unOk k f s t (S2 37) (S 37) w h) : doOk S2 (m + 1) w h := by
  have hpg : ∀ i, i ≤ m → eqP (pgB S2 (m + 1) i) (pgB S n (i + o)) := fun i hi j hj => by
    unfold pgB
    rw [if_pos (by omega)]
    rcases Nat.lt_or_ge i m with q | q
    · rw [if_pos (by omega)]; exact hB i j q hj
    · rw [if_neg (by omega), show i = m by omega]; exact hC j hj
  have hlast : pgB S2 (m + 1) (m + 1) = S2 37 := by unfold pgB; rw [if_neg (by omega)]
  have hn : pgB S n n = S 37 := by unfold pgB; rw [if_neg (by omega)]
  refine ⟨by omega, h25, h34, fun i hi => ?_⟩
  rcases Nat.lt_or_ge i m with q | q
  · obtain ⟨g1, g2⟩ := hd.2.2.2 (i + o) (by omega)
    obtain ⟨a1, a2, a3, a4⟩ := hA i q
    refine ⟨pOk_ext g1 (hpg i (by omega)), ?_⟩
    rw [a1, a2, a3, a4]
    refine unOk_ext g2 ?_ (hpg i (by omega))
    have := hpg (i + 1) (by omega)
    rwa [show i + 1 + o = i + o + 1 by omega] at this
  · have e : i = m := by omega
    subst e
    obtain ⟨a1, a2, a3, a4⟩ := hN
    have h0 := hpg i (Nat.le_refl i)
    rw [hm, hn] at h0
    refine ⟨pOk_ext hp h0, ?_⟩
    rw [a1, a2, a3, a4, hlast]
    exact unOk_ext hu (eqP_refl _) h0
theorem c_add {n : Nat} (hn : n ≤ 14) {S : aS} (h4 : S 25 4 = nI n) (k f s t : Int32) (G : aG) : ∃ S', (∀ c, c ∉ [25, 26, 27, 28, 29] → S' c = S c) ∧ S' 25 4 = nI ((if n = 14 then 13 else n) + 1) ∧ (∀ i, i < (if n = 14 then 13 else n) → S' 26 i = S 26 (i + (if n = 14 then 1 else 0)) ∧ S' 27 i = S 27 (i + (if n = 14 then 1 else 0)) ∧ S' 28 i = S 28 (i + (if n = 14 then 1 else 0)) ∧ S' 29 i = S 29 (i + (if n = 14 then 1 else 0))) ∧ (S' 26 (if n = 14 then 13 else n) = k ∧ S' 27 (if n = 14 then 13 else n) = f ∧ S' 28 (if n = 14 then 13 else n) = s ∧ S' 29 (if n = 14 then 13 else n) = t) ∧ ∀ Q, (aX mX0_add 0 [.ref 25, .int k, .int f, .int s, .int t] [] S G Q ↔ Q none S' G) := by
  have tail : ∀ (m : Nat) (T : aS) (Q : aQ), m < 14 → T 25 4 = nI m → (aX mX0_add 13 [.ref 25, .int k, .int f, .int s, .int t] [] T G Q ↔ Q none (a_pf (a_pf (a_pf (a_pf (a_pf T 26 m k) 27 m f) 28 m s) 29 m t) 25 4 (nI (m + 1))) G) := by
    intro m T Q hm hT
    have e1 : a_pf T 26 m k 25 4 = nI m := by rw [a_pf_row _ _ _ (by decide)]; exact hT
    have e2 : a_pf (a_pf T 26 m k) 27 m f 25 4 = nI m := by rw [a_pf_row _ _ _ (by decide)]; exact e1
    have e3 : a_pf (a_pf (a_pf T 26 m k) 27 m f) 28 m s 25 4 = nI m := by rw [a_pf_row _ _ _ (by decide)]; exact e2
    have e4 : a_pf (a_pf (a_pf (a_pf T 26 m k) 27 m f) 28 m s) 29 m t 25 4 = nI m := by rw [a_pf_row _ _ _ (by decide)]; exact e3
    simp only [x_X0_add_13, x_X0_add_23, x_X0_add_33, x_X0_add_43, x_X0_add_54, x_X0_add_64, a_cls_0, a_rf_0_0, a_rf_0_1, a_rf_0_2, a_rf_0_3, a_rf_0_4, a_rf_0_5, a_rf_0_6, a_rf_0_7, a_rf_0_8, a_cls_1, a_rf_1_0, a_len_2, a_get_2, a_cls_3, a_rf_3_0, a_rf_3_1, a_rf_3_2, a_len_4, a_get_4, a_len_5, a_get_5, a_len_6, a_get_6, a_cls_7, a_rf_7_0, a_rf_7_1, a_rf_7_2, a_len_8, a_get_8, a_len_9, a_get_9, a_len_10, a_get_10, a_cls_11, a_rf_11_0, a_rf_11_1, a_rf_11_2, a_len_12, a_get_12, a_len_13, a_get_13, a_len_14, a_get_14, a_cls_15, a_rf_15_0, a_rf_15_1, a_rf_15_2, a_len_16, a_get_16, a_len_17, a_get_17, a_len_18, a_get_18, a_cls_19, a_rf_19_0, a_rf_19_1, a_rf_19_2, a_rf_19_3, a_rf_19_4, a_len_20, a_get_20, a_len_21, a_get_21, a_len_22, a_get_22, a_len_23, a_get_23, a_len_24, a_get_24, a_cls_25, a_rf_25_0, a_rf_25_1, a_rf_25_2, a_rf_25_3, a_len_26, a_get_26, a_len_27, a_get_27, a_len_28, a_get_28, a_len_29, a_get_29, a_cls_30, a_rf_30_0, a_rf_30_1, a_len_31, a_get_31, a_len_32, a_get_32, a_len_33, a_get_33, a_cls_34, a_rf_34_1, a_rf_34_3, a_rf_34_4, a_rf_34_5, a_rf_34_6, a_rf_34_8, a_rf_34_9, a_rf_34_11, a_rf_34_12, a_rf_34_21, a_len_35, a_get_35, a_len_36, a_get_36, a_len_37, a_get_37, a_len_38, a_get_38, a_len_39, a_get_39, a_len_40, a_get_40, a_len_42, a_get_42, a_len_43, a_get_43, a_len_44, a_get_44, a_len_1000, a_get_1000, a_len_1002, a_get_1002, l45, hT, e1, e2, e3, e4, ain hm (by omega), tc_n (show m < 2147483648 by omega), nI_1, show (26 < 45) = True by decide, show (27 < 45) = True by decide, show (28 < 45) = True by decide, show (29 < 45) = True by decide, a_push_s, a_push_n, true_and, and_true, true_implies, false_implies, implies_true, not_true_eq_false, not_false_eq_true, e_10, e_01, e_11, e_00, or_true, true_or, or_false, false_or, and_self, false_and, and_false, Bool.false_eq_true, if_true, if_false]
  by_cases h14 : n = 14
  · subst h14
    simp only [if_true]
    obtain ⟨T0, e0⟩ : ∃ T, T = a_pf S 25 4 13 := ⟨_, rfl⟩
    obtain ⟨T1, e1⟩ : ∃ T, T = a_wr T0 26 (va_cpy (T0 26) (T0 26) 1 0 13) := ⟨_, rfl⟩
    obtain ⟨T2, e2⟩ : ∃ T, T = a_wr T1 27 (va_cpy (T1 27) (T1 27) 1 0 13) := ⟨_, rfl⟩
    obtain ⟨T3, e3⟩ : ∃ T, T = a_wr T2 28 (va_cpy (T2 28) (T2 28) 1 0 13) := ⟨_, rfl⟩
    obtain ⟨T4, e4⟩ : ∃ T, T = a_wr T3 29 (va_cpy (T3 29) (T3 29) 1 0 13) := ⟨_, rfl⟩
    have z0 : T0 25 4 = 13 := by rw [e0, a_pf_same]
    have z1 : T1 25 4 = 13 := by rw [e1, a_wr_ne _ _ (by decide)]; exact z0
    have z2 : T2 25 4 = 13 := by rw [e2, a_wr_ne _ _ (by decide)]; exact z1
    have z3 : T3 25 4 = 13 := by rw [e3, a_wr_ne _ _ (by decide)]; exact z2
    have z4 : T4 25 4 = nI 13 := by rw [e4, a_wr_ne _ _ (by decide)]; exact z3
    have r26 : T4 26 = va_cpy (S 26) (S 26) 1 0 13 := by rw [e4, a_wr_ne _ _ (by decide), e3, a_wr_ne _ _ (by decide), e2, a_wr_ne _ _ (by decide), e1, a_wr_same, e0, a_pf_row _ _ _ (by decide)]
    have r27 : T4 27 = va_cpy (S 27) (S 27) 1 0 13 := by rw [e4, a_wr_ne _ _ (by decide), e3, a_wr_ne _ _ (by decide), e2, a_wr_same, e1, a_wr_ne _ _ (by decide), e0, a_pf_row _ _ _ (by decide)]
    have r28 : T4 28 = va_cpy (S 28) (S 28) 1 0 13 := by rw [e4, a_wr_ne _ _ (by decide), e3, a_wr_same, e2, a_wr_ne _ _ (by decide), e1, a_wr_ne _ _ (by decide), e0, a_pf_row _ _ _ (by decide)]
    have r29 : T4 29 = va_cpy (S 29) (S 29) 1 0 13 := by rw [e4, a_wr_same, e3, a_wr_ne _ _ (by decide), e2, a_wr_ne _ _ (by decide), e1, a_wr_ne _ _ (by decide), e0, a_pf_row _ _ _ (by decide)]
    have rc : ∀ c, c ∉ [25, 26, 27, 28, 29] → T4 c = S c := fun c hc => by
      simp only [List.mem_cons, List.not_mem_nil, or_false, not_or] at hc
      rw [e4, a_wr_ne _ _ hc.2.2.2.2, e3, a_wr_ne _ _ hc.2.2.2.1, e2, a_wr_ne _ _ hc.2.2.1, e1, a_wr_ne _ _ hc.2.1, e0, a_pf_row _ _ _ hc.1]
    have cp : ∀ (g : Nat → Int32) i, i < 13 → va_cpy g g 1 0 13 i = g (i + 1) := fun g i hi => by rw [pk_cpy_in (by omega) (by omega)]; congr 1; omega
    refine ⟨a_pf (a_pf (a_pf (a_pf (a_pf T4 26 13 k) 27 13 f) 28 13 s) 29 13 t) 25 4 (nI (13 + 1)), fun c hc => ?_, by rw [a_pf_same], fun i hi => ⟨?_, ?_, ?_, ?_⟩, ⟨?_, ?_, ?_, ?_⟩, fun Q => ?_⟩
    · have hc' := hc
      simp only [List.mem_cons, List.not_mem_nil, or_false, not_or] at hc
      rw [a_pf_row _ _ _ hc.1, a_pf_row _ _ _ hc.2.2.2.2, a_pf_row _ _ _ hc.2.2.2.1, a_pf_row _ _ _ hc.2.2.1, a_pf_row _ _ _ hc.2.1, rc c hc']
    · rw [a_pf_row _ _ _ (by decide), a_pf_row _ _ _ (by decide), a_pf_row _ _ _ (by decide), a_pf_row _ _ _ (by decide), a_pf_ne _ _ _ (by omega), r26, cp _ i hi]
    · rw [a_pf_row _ _ _ (by decide), a_pf_row _ _ _ (by decide), a_pf_row _ _ _ (by decide), a_pf_ne _ _ _ (by omega), a_pf_row _ _ _ (by decide), r27, cp _ i hi]
    · rw [a_pf_row _ _ _ (by decide), a_pf_row _ _ _ (by decide), a_pf_ne _ _ _ (by omega), a_pf_row _ _ _ (by decide), a_pf_row _ _ _ (by decide), r28, cp _ i hi]
    · rw [a_pf_row _ _ _ (by decide), a_pf_ne _ _ _ (by omega), a_pf_row _ _ _ (by decide), a_pf_row _ _ _ (by decide), a_pf_row _ _ _ (by decide), r29, cp _ i hi]
    · simp [a_pf, a_wr, upd]
    · simp [a_pf, a_wr, upd]
    · simp [a_pf, a_wr, upd]
    · simp [a_pf, a_wr, upd]
    · have l14 : (nI 14 < 14) = False := by decide
      have c0 : ((0 : Int32) < 0) = False := by decide
      have c1 : ((1 : Int32) < 0) = False := by decide
      have c13 : ((13 : Int32) < 0) = False := by decide
      have t13 : Int32.toNatClampNeg 13 = 13 := rfl
      have n1 : (1 + 13 ≤ 14) = True := by decide
      have n2 : (0 + 13 ≤ 14) = True := by decide
      have n3 : (0 < 14) = True := by decide
      refine Iff.trans ?_ (tail 13 T4 Q (by omega) z4)
      rw [x_X0_add_0]
      simp only [a_cls_0, a_rf_0_0, a_rf_0_1, a_rf_0_2, a_rf_0_3, a_rf_0_4, a_rf_0_5, a_rf_0_6, a_rf_0_7, a_rf_0_8, a_cls_1, a_rf_1_0, a_len_2, a_get_2, a_cls_3, a_rf_3_0, a_rf_3_1, a_rf_3_2, a_len_4, a_get_4, a_len_5, a_get_5, a_len_6, a_get_6, a_cls_7, a_rf_7_0, a_rf_7_1, a_rf_7_2, a_len_8, a_get_8, a_len_9, a_get_9, a_len_10, a_get_10, a_cls_11, a_rf_11_0, a_rf_11_1, a_rf_11_2, a_len_12, a_get_12, a_len_13, a_get_13, a_len_14, a_get_14, a_cls_15, a_rf_15_0, a_rf_15_1, a_rf_15_2, a_len_16, a_get_16, a_len_17, a_get_17, a_len_18, a_get_18, a_cls_19, a_rf_19_0, a_rf_19_1, a_rf_19_2, a_rf_19_3, a_rf_19_4, a_len_20, a_get_20, a_len_21, a_get_21, a_len_22, a_get_22, a_len_23, a_get_23, a_len_24, a_get_24, a_cls_25, a_rf_25_0, a_rf_25_1, a_rf_25_2, a_rf_25_3, a_len_26, a_get_26, a_len_27, a_get_27, a_len_28, a_get_28, a_len_29, a_get_29, a_cls_30, a_rf_30_0, a_rf_30_1, a_len_31, a_get_31, a_len_32, a_get_32, a_len_33, a_get_33, a_cls_34, a_rf_34_1, a_rf_34_3, a_rf_34_4, a_rf_34_5, a_rf_34_6, a_rf_34_8, a_rf_34_9, a_rf_34_11, a_rf_34_12, a_rf_34_21, a_len_35, a_get_35, a_len_36, a_get_36, a_len_37, a_get_37, a_len_38, a_get_38, a_len_39, a_get_39, a_len_40, a_get_40, a_len_42, a_get_42, a_len_43, a_get_43, a_len_44, a_get_44, a_len_1000, a_get_1000, a_len_1002, a_get_1002, l45, h4, l14, x_X0_add_9, x_X0_forgetFirst_0, ← e0, x_X0_forgetFirst_6, z0, c0, c1, c13, tc_0, tc_1, t13, n1, n2, n3, ← e1, x_X0_forgetFirst_23, z1, ← e2, x_X0_forgetFirst_40, z2, ← e3, x_X0_forgetFirst_57, z3, ← e4, x_X0_forgetFirst_74, show (26 < 45) = True by decide, show (27 < 45) = True by decide, show (28 < 45) = True by decide, show (29 < 45) = True by decide, a_push_s, a_push_n, true_and, and_true, true_implies, false_implies, implies_true, not_true_eq_false, not_false_eq_true, e_10, e_01, e_11, e_00, or_true, true_or, or_false, false_or, and_self, false_and, and_false, Bool.false_eq_true, if_true, if_false]
  · simp only [if_neg h14, Nat.add_zero]
    refine ⟨a_pf (a_pf (a_pf (a_pf (a_pf S 26 n k) 27 n f) 28 n s) 29 n t) 25 4 (nI (n + 1)), fun c hc => ?_, by rw [a_pf_same], fun i hi => ⟨?_, ?_, ?_, ?_⟩, ⟨?_, ?_, ?_, ?_⟩, fun Q => ?_⟩
    · simp only [List.mem_cons, List.not_mem_nil, or_false, not_or] at hc
      rw [a_pf_row _ _ _ hc.1, a_pf_row _ _ _ hc.2.2.2.2, a_pf_row _ _ _ hc.2.2.2.1, a_pf_row _ _ _ hc.2.2.1, a_pf_row _ _ _ hc.2.1]
    · rw [a_pf_row _ _ _ (by decide), a_pf_row _ _ _ (by decide), a_pf_row _ _ _ (by decide), a_pf_row _ _ _ (by decide), a_pf_ne _ _ _ (by omega)]
    · rw [a_pf_row _ _ _ (by decide), a_pf_row _ _ _ (by decide), a_pf_row _ _ _ (by decide), a_pf_ne _ _ _ (by omega), a_pf_row _ _ _ (by decide)]
    · rw [a_pf_row _ _ _ (by decide), a_pf_row _ _ _ (by decide), a_pf_ne _ _ _ (by omega), a_pf_row _ _ _ (by decide), a_pf_row _ _ _ (by decide)]
    · rw [a_pf_row _ _ _ (by decide), a_pf_ne _ _ _ (by omega), a_pf_row _ _ _ (by decide), a_pf_row _ _ _ (by decide), a_pf_row _ _ _ (by decide)]
    · simp [a_pf, a_wr, upd]
    · simp [a_pf, a_wr, upd]
    · simp [a_pf, a_wr, upd]
    · simp [a_pf, a_wr, upd]
    · have l14 : (nI n < 14) = True := ylt (c := 14) (n := 14) rfl (by omega) (by omega)
      refine Iff.trans ?_ (tail n S Q (by omega) h4)
      rw [x_X0_add_0]
      simp only [a_cls_0, a_rf_0_0, a_rf_0_1, a_rf_0_2, a_rf_0_3, a_rf_0_4, a_rf_0_5, a_rf_0_6, a_rf_0_7, a_rf_0_8, a_cls_1, a_rf_1_0, a_len_2, a_get_2, a_cls_3, a_rf_3_0, a_rf_3_1, a_rf_3_2, a_len_4, a_get_4, a_len_5, a_get_5, a_len_6, a_get_6, a_cls_7, a_rf_7_0, a_rf_7_1, a_rf_7_2, a_len_8, a_get_8, a_len_9, a_get_9, a_len_10, a_get_10, a_cls_11, a_rf_11_0, a_rf_11_1, a_rf_11_2, a_len_12, a_get_12, a_len_13, a_get_13, a_len_14, a_get_14, a_cls_15, a_rf_15_0, a_rf_15_1, a_rf_15_2, a_len_16, a_get_16, a_len_17, a_get_17, a_len_18, a_get_18, a_cls_19, a_rf_19_0, a_rf_19_1, a_rf_19_2, a_rf_19_3, a_rf_19_4, a_len_20, a_get_20, a_len_21, a_get_21, a_len_22, a_get_22, a_len_23, a_get_23, a_len_24, a_get_24, a_cls_25, a_rf_25_0, a_rf_25_1, a_rf_25_2, a_rf_25_3, a_len_26, a_get_26, a_len_27, a_get_27, a_len_28, a_get_28, a_len_29, a_get_29, a_cls_30, a_rf_30_0, a_rf_30_1, a_len_31, a_get_31, a_len_32, a_get_32, a_len_33, a_get_33, a_cls_34, a_rf_34_1, a_rf_34_3, a_rf_34_4, a_rf_34_5, a_rf_34_6, a_rf_34_8, a_rf_34_9, a_rf_34_11, a_rf_34_12, a_rf_34_21, a_len_35, a_get_35, a_len_36, a_get_36, a_len_37, a_get_37, a_len_38, a_get_38, a_len_39, a_get_39, a_len_40, a_get_40, a_len_42, a_get_42, a_len_43, a_get_43, a_len_44, a_get_44, a_len_1000, a_get_1000, a_len_1002, a_get_1002, l45, h4, l14, a_push_s, a_push_n, true_and, and_true, true_implies, false_implies, implies_true, not_true_eq_false, not_false_eq_true, e_10, e_01, e_11, e_00, or_true, true_or, or_false, false_or, and_self, false_and, and_false, Bool.false_eq_true, if_true, if_false]
