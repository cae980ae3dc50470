/-! THE INVARIANT -/
/-- what a query may change: scratch -/
def scr (S S' : aS) : Prop := (∀ c, ¬ (7 ≤ c ∧ c ≤ 10) → ¬ (19 ≤ c ∧ c ≤ 24) → c ≠ 33 → c ≠ 34 → c ≠ 36 → c ≠ 38 → c ≠ 44 → S' c = S c) ∧ ∀ j, ((1 ≤ j ∧ j ≤ 13) ∨ 21 ≤ j) → S' 34 j = S 34 j
theorem scr_refl (S : aS) : scr S S := ⟨fun _ _ _ _ _ _ _ _ => rfl, fun _ _ => rfl⟩
theorem scr_trans {S S' S2 : aS} (h : scr S S') (h2 : scr S' S2) : scr S S2 := ⟨fun c a b d e f g i => (h2.1 c a b d e f g i).trans (h.1 c a b d e f g i), fun j hj => (h2.2 j hj).trans (h.2 j hj)⟩
theorem scr_rt {S S' : aS} (h : rt6 S S') : scr S S' := ⟨fun c _ _ _ d e f g => h.1 c d e f g, h.2⟩
theorem scr_rw {S S' : aS} (h : rw6 S S') : scr S S' := scr_rt (rt6_of h)
theorem scr_ey {S S' : aS} (h : eyR S S') : scr S S' := ⟨fun c _ b _ _ _ _ _ => h c b, fun j _ => by rw [h 34 (by omega)]⟩
theorem scr_ey1 {S S' : aS} {d : Nat} (h : ey S S' d) : scr S S' := ⟨fun c _ b _ _ _ _ _ => h.1 c b, fun j _ => by rw [h.1 34 (by omega)]⟩
theorem scr_7 {S S' : aS} (h : shR 7 S S') : scr S S' := ⟨fun c a _ _ _ _ _ _ => h c (by omega) (by omega) (by omega) (by omega), fun j _ => by rw [h 34 (by omega) (by omega) (by omega) (by omega)]⟩
theorem scr_33 (S : aS) (f : Nat → Int32) : scr S (a_wr S 33 f) := ⟨fun c _ _ h _ _ _ _ => a_wr_ne _ _ h, fun j _ => by rw [a_wr_ne _ _ (by decide)]⟩
def eqP (p q : Nat → Int32) : Prop := ∀ j, j < 67 → p j = q j
/-- what is undone: from the page q back to p -/
def unOk (k f s t : Int32) (q p : Nat → Int32) (w h : Nat) : Prop :=
  (k = 1 ∧ (f = 0 ∨ f = 1) ∧ ∃ d, d < w * h ∧ s = nI d ∧ eqP p (upd q (if f = 0 then 2 + d else 27 + d) t)) ∨ (k = 2 ∧ eqP p (liF q (-f) (w * h))) ∨ (k = 3 ∧ eqP p (upd (upd (upd q 52 f) 53 s) 54 t)) ∨ (k = 4 ∧ ∃ g, g ≤ 9 ∧ f = nI g ∧ eqP p (upd q (55 + g) s)) ∨ (k = 5 ∧ eqP p (upd (upd q 65 f) 66 s))
def pgB (S : aS) (n i : Nat) : Nat → Int32 := if i < n then (fun j => S 39 (67 * i + j)) else S 37
def doOk (S : aS) (n w h : Nat) : Prop := n ≤ 14 ∧ S 25 4 = nI n ∧ S 34 7 = nI n ∧ ∀ i, i < n → pOk (pgB S n i) w h ∧ unOk (S 26 i) (S 27 i) (S 28 i) (S 29 i) (pgB S n (i + 1)) (pgB S n i) w h
def kpP (S : aS) (i : Nat) : Nat → Int32 := fun j => S 40 (67 * i + j)
def kpOk (S : aS) (b0 b1 : Nat) : Prop := (b0 ≤ 1 ∧ b1 ≤ 1) ∧ S 0 9 = nI (b0 + 2 * b1) ∧ (S 41 0 = nI b0 ∧ S 41 1 = nI b1) ∧ (b0 = 1 → ∃ w h, pOk (kpP S 0) w h ∧ sh S 11 (kpP S 0) w h) ∧ (b1 = 1 → ∃ w h, pOk (kpP S 1) w h ∧ sh S 15 (kpP S 1) w h)
def snOk (S : aS) (n : Nat) : Prop := n ≤ 6 ∧ S 30 2 = nI n ∧ S 34 10 = nI n ∧ ∀ j, j < n → (∃ d, d < 25 ∧ S 31 j = nI d ∧ S 42 j = nI d) ∧ ∃ b, b ≤ 1 ∧ S 32 j = nI b ∧ S 43 j = nI b
def pgOk (S : aS) (w h : Nat) : Prop := pOk (S 37) w h ∧ sh S 3 (S 37) w h
def Inv (X N : Nat → Int32) (S : aS) (G : aG) (w h : Nat) (T : Nat → Nat) (nt nd b0 b1 ns : Nat) : Prop := pgOk S w h ∧ tx S T nt ∧ doOk S nd w h ∧ kpOk S b0 b1 ∧ snOk S ns ∧ G 0 = G 34 ∧ S 1000 = X ∧ S 1001 = N
def InvE (X N : Nat → Int32) (S : aS) (G : aG) : Prop := ∃ w h T nt nd b0 b1 ns, Inv X N S G w h T nt nd b0 b1 ns
theorem sh_cells {S S' : aS} {a w h : Nat} {p : Nat → Int32} (hs : sh S a p w h) (e0 : S' a = S a) (e1 : S' (a + 1) = S (a + 1)) (e2 : S' (a + 2) = S (a + 2)) (e3 : S' (a + 3) = S (a + 3)) : sh S' a p w h := by
  obtain ⟨ha, h1, h2, h3, h4, h5, h6, h7⟩ := hs
  refine ⟨ha, ?_, ?_, ?_, ?_, ?_, ?_, ?_⟩
  · rw [e0]; exact h1
  · rw [e0]; exact h2
  · rw [e1]; exact h3
  · rw [e2]; exact h4
  · rw [e0]; exact h5
  · rw [e3]; exact h6
  · rw [e0]; exact h7
theorem pg_cells {S S' : aS} {w h : Nat} (hp : pgOk S w h) (e0 : S' 3 = S 3) (e1 : S' 4 = S 4) (e2 : S' 5 = S 5) (e3 : S' 6 = S 6) (e : S' 37 = S 37) : pgOk S' w h := by
  refine ⟨by rw [e]; exact hp.1, ?_⟩
  rw [e]
  exact sh_cells hp.2 e0 e1 e2 e3
theorem tx_cells {S S' : aS} {T : Nat → Nat} {n : Nat} (ht : tx S T n) (e1 : S' 1 1 = S 1 1) (e2 : S' 34 2 = S 34 2) (e3 : S' 2 = S 2) (e4 : S' 35 = S 35) : tx S' T n := by
  obtain ⟨h0, h1, h2, h3⟩ := ht
  exact ⟨h0, e1.trans h1, e2.trans h2, fun j hj => by rw [e3, e4]; exact h3 j hj⟩
theorem pgB_cells {S S' : aS} (n i : Nat) (e1 : S' 39 = S 39) (e2 : S' 37 = S 37) : pgB S' n i = pgB S n i := by unfold pgB; rw [e1, e2]
theorem do_cells {S S' : aS} {n w h : Nat} (hd : doOk S n w h) (e1 : S' 25 4 = S 25 4) (e2 : S' 34 7 = S 34 7) (e3 : S' 26 = S 26) (e4 : S' 27 = S 27) (e5 : S' 28 = S 28) (e6 : S' 29 = S 29) (e7 : S' 39 = S 39) (e8 : S' 37 = S 37) : doOk S' n w h := by
  obtain ⟨h0, h1, h2, h3⟩ := hd
  exact ⟨h0, e1.trans h1, e2.trans h2, fun i hi => by rw [pgB_cells n i e7 e8, pgB_cells n (i + 1) e7 e8, e3, e4, e5, e6]; exact h3 i hi⟩
theorem kp_cells {S S' : aS} {b0 b1 : Nat} (hk : kpOk S b0 b1) (e1 : S' 0 9 = S 0 9) (e2 : S' 41 = S 41) (e3 : S' 40 = S 40) (e4 : ∀ c, 11 ≤ c → c ≤ 18 → S' c = S c) : kpOk S' b0 b1 := by
  obtain ⟨h0, h1, h2, h3, h4⟩ := hk
  refine ⟨h0, e1.trans h1, by rw [e2]; exact h2, fun hb => ?_, fun hb => ?_⟩
  · obtain ⟨w, h, hp, hs⟩ := h3 hb
    have e : kpP S' 0 = kpP S 0 := by unfold kpP; rw [e3]
    refine ⟨w, h, by rw [e]; exact hp, ?_⟩
    rw [e]
    exact sh_cells hs (e4 _ (by omega) (by omega)) (e4 _ (by omega) (by omega)) (e4 _ (by omega) (by omega)) (e4 _ (by omega) (by omega))
  · obtain ⟨w, h, hp, hs⟩ := h4 hb
    have e : kpP S' 1 = kpP S 1 := by unfold kpP; rw [e3]
    refine ⟨w, h, by rw [e]; exact hp, ?_⟩
    rw [e]
    exact sh_cells hs (e4 _ (by omega) (by omega)) (e4 _ (by omega) (by omega)) (e4 _ (by omega) (by omega)) (e4 _ (by omega) (by omega))
theorem sn_cells {S S' : aS} {n : Nat} (hk : snOk S n) (e1 : S' 30 2 = S 30 2) (e2 : S' 34 10 = S 34 10) (e3 : S' 31 = S 31) (e4 : S' 42 = S 42) (e5 : S' 32 = S 32) (e6 : S' 43 = S 43) : snOk S' n := by
  obtain ⟨h0, h1, h2, h3⟩ := hk
  exact ⟨h0, e1.trans h1, e2.trans h2, fun j hj => by rw [e3, e4, e5, e6]; exact h3 j hj⟩
theorem Inv_scr {X N : Nat → Int32} {S S' : aS} {G : aG} {w h : Nat} {T : Nat → Nat} {nt nd b0 b1 ns : Nat} (hI : Inv X N S G w h T nt nd b0 b1 ns) (hs : scr S S') : Inv X N S' G w h T nt nd b0 b1 ns := by
  obtain ⟨h1, h2, h3, h4, h5, h6, h7, h8⟩ := hI
  obtain ⟨c, f⟩ := hs
  have e : ∀ k, ¬ (7 ≤ k ∧ k ≤ 10) ∧ ¬ (19 ≤ k ∧ k ≤ 24) ∧ k ≠ 33 ∧ k ≠ 34 ∧ k ≠ 36 ∧ k ≠ 38 ∧ k ≠ 44 → S' k = S k := fun k hk => c k hk.1 hk.2.1 hk.2.2.1 hk.2.2.2.1 hk.2.2.2.2.1 hk.2.2.2.2.2.1 hk.2.2.2.2.2.2
  refine ⟨pg_cells h1 (e 3 (by omega)) (e 4 (by omega)) (e 5 (by omega)) (e 6 (by omega)) (e 37 (by omega)), tx_cells h2 (by rw [e 1 (by omega)]) (f 2 (by omega)) (e 2 (by omega)) (e 35 (by omega)), do_cells h3 (by rw [e 25 (by omega)]) (f 7 (by omega)) (e 26 (by omega)) (e 27 (by omega)) (e 28 (by omega)) (e 29 (by omega)) (e 39 (by omega)) (e 37 (by omega)), kp_cells h4 (by rw [e 0 (by omega)]) (e 41 (by omega)) (e 40 (by omega)) (fun k h1 h2 => e k (by omega)), sn_cells h5 (by rw [e 30 (by omega)]) (f 10 (by omega)) (e 31 (by omega)) (e 42 (by omega)) (e 32 (by omega)) (e 43 (by omega)), h6, by rw [e 1000 (by omega)]; exact h7, by rw [e 1001 (by omega)]; exact h8⟩
/-- class and reference answer alike, and the invariant holds again -/
def Pr (X N : Nat → Int32) (mc mr : aM) (Lc Lr : List Value) (S : aS) (G : aG) : Prop := ∃ (r : Value) (S1 : aS) (G1 : aG) (S2 : aS) (G2 : aG), (∀ Q, aX mc 0 Lc [] S G Q ↔ Q (some r) S1 G1) ∧ (∀ Q, aX mr 0 Lr [] S1 G1 Q ↔ Q (some r) S2 G2) ∧ InvE X N S2 G2
theorem Pr_q {X N : Nat → Int32} {mc mr : aM} {Lc Lr : List Value} {S : aS} {G : aG} (hI : InvE X N S G) (r : Value) (S1 S2 : aS) (h1 : scr S S1) (h2 : scr S1 S2) (hc : ∀ Q, aX mc 0 Lc [] S G Q ↔ Q (some r) S1 G) (hr : ∀ Q, aX mr 0 Lr [] S1 G Q ↔ Q (some r) S2 G) : Pr X N mc mr Lc Lr S G := by
  obtain ⟨w, h, T, nt, nd, b0, b1, ns, hI⟩ := hI
  exact ⟨r, S1, G, S2, G, hc, hr, w, h, T, nt, nd, b0, b1, ns, Inv_scr (Inv_scr hI h1) h2⟩
