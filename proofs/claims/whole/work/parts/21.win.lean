theorem it_foldl {α : Type} (f : Nat → α → α) (a : α) : ∀ n, it f a n = (List.range n).foldl (fun x i => f i x) a
  | 0 => rfl
  | n + 1 => by rw [it_succ, it_foldl f a n, List.range_succ, List.foldl_append]; rfl
/-- the window's dots as the class goes through them, and as the reference finds them -/
def clW (w h d k : Nat) : List Nat := (List.range (min (h - 1) (d / w + k) + 1 - (d / w - k))).flatMap fun j => (List.range (min (w - 1) (d % w + k) + 1 - (d % w - k))).map fun i => (d / w - k + j) * w + (d % w - k + i)
def wlW (w h d k : Nat) : List Nat := (List.range (w * h)).filter fun e => nrB w d e k
theorem clW_all : ((List.range 6).all fun w => (List.range 6).all fun h => (List.range (w * h)).all fun d => (List.range 3).all fun k => decide (clW w h d k = wlW w h d k) && decide ((min (w - 1) (d % w + k) + 1 - (d % w - k)) * (min (h - 1) (d / w + k) + 1 - (d / w - k)) = (wlW w h d k).length)) = true := by decide +kernel
theorem clW_eq {w h d k : Nat} (hw : w ≤ 5) (hh : h ≤ 5) (hd : d < w * h) (hk : k ≤ 2) : clW w h d k = wlW w h d k ∧ (min (w - 1) (d % w + k) + 1 - (d % w - k)) * (min (h - 1) (d / w + k) + 1 - (d / w - k)) = (wlW w h d k).length := by
  have h1 := clW_all
  simp only [List.all_eq_true, List.mem_range, Bool.and_eq_true, decide_eq_true_eq] at h1
  exact h1 w (by omega) h (by omega) d hd k (by omega)
def pairS (p : Nat → Int32) (l : List Nat) (t : Int32 × Int32) : Int32 × Int32 := l.foldl (fun t e => (t.1 + p (2 + e), t.2 + p (2 + e) * p (2 + e))) t
theorem tri_fold (p : Nat → Int32) : ∀ (l : List Nat) (c s q : Int32), l.foldl (fun t e => (t.1 + 1, t.2.1 + p (2 + e), t.2.2 + p (2 + e) * p (2 + e))) (c, s, q) = (c + nI l.length, pairS p l (s, q))
  | [], c, s, q => by simp [pairS, nI_0]
  | e :: l, c, s, q => by
    rw [List.foldl_cons, tri_fold p l, List.length_cons]
    simp only [pairS, List.foldl_cons]
    rw [nI_succ, Int32.add_assoc, Int32.add_comm 1 (nI l.length)]
theorem wF_list (p : Nat → Int32) (w h d k : Nat) : wF p w (w * h) d k = (nI (wlW w h d k).length, pairS p (wlW w h d k) (0, 0)) := by
  unfold wF
  rw [it_foldl]
  have e := tri_fold p (wlW w h d k) 0 0 0
  unfold wlW at e ⊢
  rw [List.foldl_filter] at e
  rw [e, Int32.zero_add]
theorem pairS_flat (p : Nat → Int32) (f : Nat → List Nat) : ∀ (n : Nat) (t : Int32 × Int32), pairS p ((List.range n).flatMap f) t = it (fun j t => pairS p (f j) t) t n
  | 0, t => rfl
  | n + 1, t => by
    rw [List.range_succ, List.flatMap_append, it_succ, ← pairS_flat p f n t]
    simp [pairS]
theorem pairS_map (p : Nat → Int32) (f : Nat → Nat) (n : Nat) (t : Int32 × Int32) : pairS p ((List.range n).map f) t = it (fun i t => (t.1 + p (2 + f i), t.2 + p (2 + f i) * p (2 + f i))) t n := by
  rw [it_foldl]
  simp only [pairS, List.foldl_map]
/-- what the class adds up -/
theorem wF_cls {p : Nat → Int32} {w h d k : Nat} (hw : w ≤ 5) (hh : h ≤ 5) (hd : d < w * h) (hk : k ≤ 2) : wF p w (w * h) d k = (nI ((min (w - 1) (d % w + k) + 1 - (d % w - k)) * (min (h - 1) (d / w + k) + 1 - (d / w - k))), it (fun j t => it (fun i t => (t.1 + p (2 + ((d / w - k + j) * w + (d % w - k + i))), t.2 + p (2 + ((d / w - k + j) * w + (d % w - k + i))) * p (2 + ((d / w - k + j) * w + (d % w - k + i))))) t (min (w - 1) (d % w + k) + 1 - (d % w - k))) (0, 0) (min (h - 1) (d / w + k) + 1 - (d / w - k))) := by
  obtain ⟨e1, e2⟩ := clW_eq hw hh hd hk
  rw [wF_list, ← e2, ← e1]
  unfold clW
  rw [pairS_flat]
  congr 1
  apply it_congr
  intro j t _
  rw [pairS_map]
/-- the eye at one dot -/
def eyeAt (S : aS) (p : Nat → Int32) (w h k d : Nat) : Prop := S 20 d = (wF p w (w * h) d k).1 ∧ S 21 d = (wF p w (w * h) d k).2.1 ∧ S 22 d = (wF p w (w * h) d k).2.2 ∧ S 23 d = p (2 + d) ∧ S 24 d = alF p w h d
/-- only the eye's dot d has changed -/
def ey (S S' : aS) (d : Nat) : Prop := (∀ c, ¬ (19 ≤ c ∧ c ≤ 24) → S' c = S c) ∧ (∀ c j, 20 ≤ c → c ≤ 24 → j ≠ d → S' c j = S c j) ∧ S' 19 6 = S 19 6
theorem ey_refl (S : aS) (d : Nat) : ey S S d := ⟨fun _ _ => rfl, fun _ _ _ _ _ => rfl, rfl⟩
theorem ey_trans {S S' S2 : aS} {d : Nat} (h : ey S S' d) (h2 : ey S' S2 d) : ey S S2 d := ⟨fun c hc => (h2.1 c hc).trans (h.1 c hc), fun c j h3 h4 h5 => (h2.2.1 c j h3 h4 h5).trans (h.2.1 c j h3 h4 h5), h2.2.2.trans h.2.2⟩
theorem ey_pf (S : aS) {c : Nat} (d : Nat) (v : Int32) (hc : 20 ≤ c ∧ c ≤ 24) : ey S (a_pf S c d v) d := ⟨fun k hk => a_pf_row _ _ _ (by omega), fun k j h1 h2 h3 => by
    by_cases e : k = c
    · subst e; exact a_pf_ne _ _ _ h3
    · rw [a_pf_row _ _ _ e], by rw [a_pf_row _ _ _ (by omega)]⟩
theorem ey_pf5 (S : aS) (d : Nat) (v : Int32) : ey S (a_pf S 19 5 v) d := ⟨fun k hk => a_pf_row _ _ _ (by omega), fun k j h1 h2 h3 => by rw [a_pf_row _ _ _ (by omega)], a_pf_ne _ _ _ (by decide)⟩
theorem sha_ne {a : Nat} (h : sha a) : ∀ c, 19 ≤ c → (a ≠ c ∧ a + 1 ≠ c ∧ a + 2 ≠ c ∧ a + 3 ≠ c) := by rcases h with rfl | rfl | rfl | rfl <;> intro c hc <;> omega
theorem sh_ey {S S' : aS} {a w h d : Nat} {p : Nat → Int32} (hs : sh S a p w h) (he : ey S S' d) : sh S' a p w h := by
  obtain ⟨ha, h1, h2, h3, h4, h5, h6, h7⟩ := hs
  have lt : a < 19 ∧ a + 3 < 19 := by rcases ha with rfl | rfl | rfl | rfl <;> omega
  have e0 := he.1 a (by omega)
  have e1 := he.1 (a + 1) (by omega)
  have e2 := he.1 (a + 2) (by omega)
  have e3 := he.1 (a + 3) (by omega)
  refine ⟨ha, ?_, ?_, ?_, ?_, ?_, ?_, ?_⟩
  · rw [e0]; exact h1
  · rw [e0]; exact h2
  · rw [e1]; exact h3
  · rw [e2]; exact h4
  · rw [e0]; exact h5
  · rw [e3]; exact h6
  · rw [e0]; exact h7
def e2 (S : aS) (d : Nat) (t : Int32 × Int32) : aS := a_pf (a_pf S 21 d t.1) 22 d t.2
theorem e2_row (S : aS) (d : Nat) (t : Int32 × Int32) {c : Nat} (h1 : c ≠ 21) (h2 : c ≠ 22) : e2 S d t c = S c := by unfold e2; rw [a_pf_row _ _ _ h2, a_pf_row _ _ _ h1]
theorem e2_21 (S : aS) (d : Nat) (t : Int32 × Int32) : e2 S d t 21 d = t.1 := by unfold e2; rw [a_pf_row _ _ _ (by decide), a_pf_same]
theorem e2_22 (S : aS) (d : Nat) (t : Int32 × Int32) : e2 S d t 22 d = t.2 := by unfold e2; rw [a_pf_same]
theorem e2_p22 (S : aS) (d : Nat) (t : Int32 × Int32) (x : Int32) : a_pf (e2 S d t) 21 d x 22 d = t.2 := by rw [a_pf_row _ _ _ (by decide), e2_22]
theorem e2_new (S : aS) (d : Nat) (t : Int32 × Int32) (a b : Int32) : a_pf (a_pf (e2 S d t) 21 d a) 22 d b = e2 S d (a, b) := by
  funext c j
  by_cases h1 : c = 21
  · subst h1; by_cases hj : j = d <;> simp [e2, a_pf, a_wr, upd, hj]
  · by_cases h2 : c = 22
    · subst h2; by_cases hj : j = d <;> simp [e2, a_pf, a_wr, upd, hj]
    · simp [e2, a_pf, a_wr, h1, h2]
theorem ey_e2 (S : aS) (d : Nat) (t : Int32 × Int32) : ey S (e2 S d t) d := ey_trans (ey_pf S d t.1 (by omega)) (ey_pf _ d t.2 (by omega))
