/-- where things are: the classes' numbers and slots, the classes of int and boolean rows, the addresses, the first address that is ours, the script's length and ints -/
abbrev aE : Type := va_G × ClassId × ClassId × (Nat → Nat) × Nat × Nat × (Nat → Int32)
def e_ad (E : aE) : Nat → Nat := E.2.2.2.1
def e_A (E : aE) : Nat → Prop := fun q => E.2.2.2.2.1 ≤ q
def e_L (E : aE) : Nat := E.2.2.2.2.2.1
def e_xs (E : aE) : Nat → Int32 := E.2.2.2.2.2.2
def e_tys (E : aE) : List (ClassId × FieldType) := [(E.2.1, .int), (E.2.2.1, .boolean)]
def a_tr (E : aE) : Value → Value
  | .ref k => .ref (e_ad E k)
  | v => v
theorem a_tr_cat (E : aE) (v : Value) : (a_tr E v).category = v.category := by cases v <;> rfl
def a_fv (E : aE) (S : aS) (G : aG) (k j t : Nat) : Value := match t with
  | 0 => .int (S k j)
  | 1 => .long (G k)
  | _ => .ref (e_ad E (a_rf k j))
def a_fl (E : aE) (S : aS) (G : aG) (k c : Nat) : List Value := (a_fs c).mapIdx (fun j t => a_fv E S G k j t)
def a_cell (E : aE) (S : aS) (G : aG) (k : Nat) : va_E :=
  if a_cls k < 7 then .inr (a_cls k, a_fl E S G k (a_cls k)) else if k = 41 then .inl (E.2.2.1, 2, .inl (S k)) else .inl (E.2.1, a_lnL.getD k 0, .inl (S k))
def a_ws (E : aE) (S : aS) (G : aG) : va_W := (List.range 45).map (fun k => (e_ad E k, a_cell E S G k))
theorem a_ws_at (E : aE) (S : aS) (G : aG) {k : Nat} (h : k < 45) : (a_ws E S G)[k]? = some (e_ad E k, a_cell E S G k) := by
  simp [a_ws, h]
theorem a_cell_congr (E : aE) {S S' : aS} {G G' : aG} {k : Nat} (h : S' k = S k) (hg : G' k = G k) : a_cell E S' G' k = a_cell E S G k := by
  have e : ∀ c, a_fl E S' G' k c = a_fl E S G k c := fun c => by
    unfold a_fl
    congr 1
    funext j t
    unfold a_fv
    rw [h, hg]
  unfold a_cell
  rw [h, e]
theorem a_ws_set (E : aE) {S S' : aS} {G G' : aG} {k : Nat} (h : k < 45) (hs : ∀ j, j ≠ k → S' j = S j) (hg : ∀ j, j ≠ k → G' j = G j) {a : Nat} {e : va_E} (ha : a = e_ad E k) (he : e = a_cell E S' G' k) : (a_ws E S G).set k (a, e) = a_ws E S' G' := by
  subst ha he
  apply List.ext_getElem?
  intro j
  by_cases hj : j = k
  · subst hj
    rw [List.getElem?_set_self (by simp [a_ws, h]), a_ws_at E S' G' h]
  · rw [List.getElem?_set_ne (Ne.symm hj)]
    by_cases hl : j < 45
    · rw [a_ws_at E S G hl, a_ws_at E S' G' hl, a_cell_congr E (hs j hj) (hg j hj)]
    · simp [a_ws, hl]
theorem a_cls_lt {k : Nat} (h : a_cls k < 7) : k < 45 := by
  rcases Nat.lt_or_ge k 45 with q | q
  · exact q
  · have : a_cls k = 99 := by
      unfold a_cls
      rw [List.getD_eq_getElem?_getD, List.getElem?_eq_none (show a_clsL.length ≤ k from q)]
      rfl
    omega
theorem a_lnL_fact : ∀ k, k < 45 → 0 < a_lnL.getD k 0 → ¬ a_cls k < 7 ∧ k ≠ 41 := by decide +kernel
theorem a_len_row {S : aS} {k : Nat} (h : 0 < a_len S k) (h1 : k ≠ 1000) (h2 : k ≠ 1002) : k < 45 ∧ a_len S k = a_lnL.getD k 0 ∧ ∀ (E : aE) (S' : aS) (G : aG), a_cell E S' G k = .inl (E.2.1, a_lnL.getD k 0, .inl (S' k)) := by
  have e : a_len S k = a_lnL.getD k 0 := by unfold a_len; rw [if_neg h1, if_neg h2]
  rw [e] at h
  have hk : k < 45 := by
    rcases Nat.lt_or_ge k 45 with q | q
    · exact q
    · rw [List.getD_eq_getElem?_getD, List.getElem?_eq_none (show a_lnL.length ≤ k from q)] at h
      exact absurd h (by decide)
  obtain ⟨f1, f2⟩ := a_lnL_fact k hk h
  exact ⟨hk, e, fun E S' G => by unfold a_cell; rw [if_neg f1, if_neg f2]⟩
theorem a_cell_41 (E : aE) (S : aS) (G : aG) : a_cell E S G 41 = .inl (E.2.2.1, 2, .inl (S 41)) := by
  unfold a_cell
  rw [if_neg (by decide), if_pos rfl]
theorem a_cell_obj (E : aE) (S : aS) (G : aG) {k : Nat} (h : a_cls k < 7) : a_cell E S G k = .inr (a_cls k, a_fl E S G k (a_cls k)) := by
  unfold a_cell
  rw [if_pos h]
theorem a_fl_at (E : aE) (S : aS) (G : aG) {k c j t : Nat} (h : (a_fs c)[j]? = some t) : (a_fl E S G k c)[j]? = some (a_fv E S G k j t) := by
  simp [a_fl, List.getElem?_mapIdx, h]
theorem a_fl_len (E : aE) (S : aS) (G : aG) (k c : Nat) : (a_fl E S G k c).length = (a_fs c).length := by simp [a_fl]
theorem a_fl_put (E : aE) (S : aS) (G : aG) {k c j : Nat} (h : (a_fs c)[j]? = some 0) (v : Int32) : (a_fl E S G k c).set j (.int v) = a_fl E (a_wr S k (upd (S k) j v)) G k c := by
  apply List.ext_getElem?
  intro i
  by_cases hi : i = j
  · subst hi
    rw [List.getElem?_set_self (by rw [a_fl_len]; exact (List.getElem?_eq_some_iff.mp h).1), a_fl_at _ _ _ h]
    simp [a_fv, a_wr, upd]
  · rw [List.getElem?_set_ne (Ne.symm hi)]
    simp only [a_fl, List.getElem?_mapIdx]
    congr 1
    funext t
    simp [a_fv, a_wr, upd, hi]
theorem a_fl_putL (E : aE) (S : aS) (G : aG) {k c j : Nat} (h : (a_fs c)[j]? = some 1) (hu : ∀ i, i ≠ j → (a_fs c)[i]? ≠ some 1) (v : Int64) : (a_fl E S G k c).set j (.long v) = a_fl E S (a_wr G k v) k c := by
  apply List.ext_getElem?
  intro i
  by_cases hi : i = j
  · subst hi
    rw [List.getElem?_set_self (by rw [a_fl_len]; exact (List.getElem?_eq_some_iff.mp h).1), a_fl_at _ _ _ h]
    simp [a_fv, a_wr]
  · rw [List.getElem?_set_ne (Ne.symm hi)]
    simp only [a_fl, List.getElem?_mapIdx]
    have hx := hu i hi
    cases hf : (a_fs c)[i]? with
    | none => rfl
    | some t =>
      have ht : t ≠ 1 := fun e => hx (by rw [hf, e])
      simp only [Option.map_some]
      congr 1
      unfold a_fv
      match t, ht with
      | 0, _ => rfl
      | n + 2, _ => rfl
theorem a_fs_oneC : ((List.range 7).all fun c => (List.range 22).all fun j => (List.range 22).all fun i => ((a_fs c).getD j 0 != 1) || i == j || ((a_fs c).getD i 0 != 1)) = true := by decide +kernel
theorem a_fs_oneB (c : Nat) (hc : c < 7) (j : Nat) (hj : j < 22) (i : Nat) (hi : i < 22) : ¬ ((a_fs c)[j]? = some 1) ∨ i = j ∨ ¬ ((a_fs c)[i]? = some 1) := by
  have h := a_fs_oneC
  simp only [List.all_eq_true, List.mem_range] at h
  have h2 := h c hc j hj i hi
  simp only [Bool.or_eq_true, bne_iff_ne, ne_eq, beq_iff_eq, List.getD_eq_getElem?_getD] at h2
  rcases h2 with (q | q) | q
  · exact Or.inl (fun e => q (by rw [e]; rfl))
  · exact Or.inr (Or.inl q)
  · exact Or.inr (Or.inr (fun e => q (by rw [e]; rfl)))
theorem a_fs_22 : ∀ c, c < 7 → (a_fs c).length ≤ 22 := by decide +kernel
theorem a_fs_one {c : Nat} (hc : c < 7) {j : Nat} (h : (a_fs c)[j]? = some 1) : ∀ i, i ≠ j → (a_fs c)[i]? ≠ some 1 := by
  intro i hi h2
  have l1 := (List.getElem?_eq_some_iff.mp h).1
  have l2 := (List.getElem?_eq_some_iff.mp h2).1
  have l3 := a_fs_22 c hc
  rcases a_fs_oneB c hc j (by omega) i (by omega) with q | q | q
  · exact q h
  · exact hi q
  · exact q h2
-- locals
def a_al (E : aE) (L : List Value) : List (Nat × Value) := L.zipIdx.filterMap (fun q => if q.1 = .null then none else some (q.2, a_tr E q.1))
theorem a_al_mem (E : aE) {L : List Value} {k : Nat} {w : Value} : (k, w) ∈ a_al E L ↔ ∃ v, L[k]? = some v ∧ v ≠ .null ∧ w = a_tr E v := by
  unfold a_al
  rw [List.mem_filterMap]
  constructor
  · rintro ⟨⟨v, i⟩, hm, he⟩
    have hv : L[i]? = some v := by
      have := List.mk_mem_zipIdx_iff_getElem?.mp hm
      simpa using this
    by_cases hn : v = .null
    · simp [hn] at he
    · simp only [hn, if_false, Option.some.injEq, Prod.mk.injEq] at he
      obtain ⟨rfl, rfl⟩ := he
      exact ⟨v, hv, hn, rfl⟩
  · rintro ⟨v, hv, hn, rfl⟩
    exact ⟨(v, k), List.mk_mem_zipIdx_iff_getElem?.mpr (by simpa using hv), by simp [hn]⟩
def a_loc (E : aE) (ls : Array Slot) (nL : Nat) (L : List Value) : Prop := L.length = nL ∧ lv_has ls nL (a_al E L)
theorem a_loc_at {E : aE} {ls : Array Slot} {nL : Nat} {L : List Value} (h : a_loc E ls nL L) {i : Nat} {v : Value} (hv : a_ld L i = v) (hn : v ≠ .null) : ls[i]? = some (.val (a_tr E v)) := by
  refine h.2.2.2 (i, a_tr E v) ((a_al_mem E).mpr ⟨v, ?_, hn, rfl⟩)
  unfold a_ld at hv
  rw [List.getD_eq_getElem?_getD] at hv
  cases hx : L[i]? with
  | none => rw [hx] at hv; exact (hn (by rw [← hv]; rfl)).elim
  | some w => rw [hx] at hv; simp at hv; rw [hv]
theorem lv_mono {ls : Array Slot} {nL : Nat} {l l' : List (Nat × Value)} (h : lv_has ls nL l) (hs : ∀ q ∈ l', q ∈ l) : lv_has ls nL l' := ⟨h.1, h.2.1, fun q hq => h.2.2 q (hs q hq)⟩
theorem a_loc_st {E : aE} {ls' : Array Slot} {nL : Nat} {L : List Value} (hL : L.length = nL) {i : Nat} {v : Value} (hi : i < L.length ∧ (i = 0 ∨ (L.getD (i - 1) .null).category = 1)) (h : lv_has ls' nL ((i, a_tr E v) :: (a_al E L).filter (fun q => !(q.1 == i) && !(q.1 + 1 == i && q.2.category == 2)))) : a_loc E ls' nL (L.set i v) := by
  refine ⟨by rw [List.length_set]; exact hL, lv_mono h ?_⟩
  rintro ⟨k, w⟩ hq
  obtain ⟨u, hu, hn, rfl⟩ := (a_al_mem E).mp hq
  by_cases hk : k = i
  · subst hk
    rw [List.getElem?_set_self hi.1] at hu
    cases hu
    exact List.mem_cons_self
  · rw [List.getElem?_set_ne (Ne.symm hk)] at hu
    refine List.mem_cons_of_mem _ (List.mem_filter.mpr ⟨(a_al_mem E).mpr ⟨u, hu, hn, rfl⟩, ?_⟩)
    simp only [Bool.and_eq_true, Bool.not_eq_true', beq_eq_false_iff_ne, ne_eq, hk, not_false_eq_true, true_and, Bool.and_eq_false_imp, beq_iff_eq]
    intro e
    rcases hi.2 with h0 | h0
    · omega
    · have e2 : i - 1 = k := by omega
      rw [e2, List.getD_eq_getElem?_getD, hu] at h0
      rw [a_tr_cat]
      simp at h0
      rw [h0]
      decide
theorem a_loc_st2 {E : aE} {ls' : Array Slot} {nL : Nat} {L : List Value} (hL : L.length = nL) {i : Nat} {v : Value} (hi : i + 1 < L.length ∧ (i = 0 ∨ (L.getD (i - 1) .null).category = 1)) (h : lv_has ls' nL ((i, a_tr E v) :: (a_al E L).filter (fun q => !(q.1 == i) && (!(q.1 == i + 1) && !(q.1 + 1 == i && q.2.category == 2))))) : a_loc E ls' nL ((L.set i v).set (i + 1) .null) := by
  refine ⟨by rw [List.length_set, List.length_set]; exact hL, lv_mono h ?_⟩
  rintro ⟨k, w⟩ hq
  obtain ⟨u, hu, hn, rfl⟩ := (a_al_mem E).mp hq
  by_cases hk1 : k = i + 1
  · subst hk1
    rw [List.getElem?_set_self (by rw [List.length_set]; exact hi.1)] at hu
    cases hu
    exact (hn rfl).elim
  · rw [List.getElem?_set_ne (Ne.symm hk1)] at hu
    by_cases hk : k = i
    · subst hk
      rw [List.getElem?_set_self (by omega)] at hu
      cases hu
      exact List.mem_cons_self
    · rw [List.getElem?_set_ne (Ne.symm hk)] at hu
      refine List.mem_cons_of_mem _ (List.mem_filter.mpr ⟨(a_al_mem E).mpr ⟨u, hu, hn, rfl⟩, ?_⟩)
      simp only [Bool.and_eq_true, Bool.not_eq_true', beq_eq_false_iff_ne, ne_eq, hk, hk1, not_false_eq_true, true_and, Bool.and_eq_false_imp, beq_iff_eq]
      intro e
      rcases hi.2 with h0 | h0
      · omega
      · have e2 : i - 1 = k := by omega
        rw [e2, List.getD_eq_getElem?_getD, hu] at h0
        rw [a_tr_cat]
        simp at h0
        rw [h0]
        decide
-- entry
theorem a_ex_args (E : aE) : ∀ (as : List Value) (i : Nat) (k : Nat) (v : Value), (a_ex as)[k]? = some v → v ≠ .null → (i + k, a_tr E v) ∈ lv_args i (as.map (a_tr E))
  | [], i, k, v, h, hn => by simp [a_ex] at h
  | a :: as, i, k, v, h, hn => by
    have gen : ∀ (step : Nat) (pre : List Value), a_ex (a :: as) = pre ++ a_ex as → pre.length = step → pre[0]? = some a → (∀ j, 0 < j → ∀ u, pre[j]? = some u → u = .null) → (if (a_tr E a).category = 2 then i + 2 else i + 1) = i + step → (i + k, a_tr E v) ∈ lv_args i ((a :: as).map (a_tr E)) := by
      intro step pre e1 e2 e3 e4 e5
      rw [e1] at h
      show (i + k, a_tr E v) ∈ (i, a_tr E a) :: lv_args (if (a_tr E a).category = 2 then i + 2 else i + 1) (as.map (a_tr E))
      rw [e5]
      by_cases hk : k < pre.length
      · rw [List.getElem?_append_left hk] at h
        by_cases h0 : k = 0
        · subst h0
          rw [e3] at h
          cases h
          exact List.mem_cons_self
        · exact (hn (e4 k (by omega) v h)).elim
      · rw [List.getElem?_append_right (by omega)] at h
        have := a_ex_args E as (i + step) (k - pre.length) v h hn
        have e6 : i + step + (k - pre.length) = i + k := by omega
        rw [e6] at this
        exact List.mem_cons_of_mem _ this
    by_cases hc : a.category = 2
    · refine gen 2 [a, .null] (by rw [a_ex, if_pos hc]; rfl) rfl rfl (fun j hj u hu => ?_) (by rw [a_tr_cat, if_pos hc])
      match j, hj with
      | 1, _ => simp at hu; exact hu.symm
      | n + 2, _ => simp at hu
    · refine gen 1 [a] (by rw [a_ex, if_neg hc]; rfl) rfl rfl (fun j hj u hu => ?_) (by rw [a_tr_cat, if_neg hc])
      match j, hj with
      | n + 1, _ => simp at hu
theorem a_ex_sl (E : aE) : ∀ as : List Value, (lg_sl (as.map (a_tr E))).length = (a_ex as).length
  | [] => rfl
  | a :: as => by
    have ih := a_ex_sl E as
    have e : lg_sl ((a :: as).map (a_tr E)) = (if (a_tr E a).category = 2 then [Slot.val (a_tr E a), Slot.second] else [Slot.val (a_tr E a)]) ++ lg_sl (as.map (a_tr E)) := by
      simp [lg_sl]
    rw [e, a_ex, a_tr_cat]
    by_cases hc : a.category = 2
    · rw [if_pos hc, if_pos hc]; simp [ih]
    · rw [if_neg hc, if_neg hc]; simp [ih]
theorem a_loc_entry (E : aE) (m : aM) (as : List Value) (h : (a_ex as).length ≤ m.2.2.2.1) : a_loc E ((lg_sl (as.map (a_tr E)) ++ List.replicate (m.2.2.2.1 - (lg_sl (as.map (a_tr E))).length) Slot.unset).toArray) m.2.2.2.1 (a_ent m as) := by
  refine ⟨by simp [a_ent]; omega, lv_mono (lv_entry (as.map (a_tr E)) (by rw [a_ex_sl]; exact h)) ?_⟩
  rintro ⟨k, w⟩ hq
  obtain ⟨v, hv, hn, rfl⟩ := (a_al_mem E).mp hq
  unfold a_ent at hv
  by_cases hk : k < (a_ex as).length
  · rw [List.getElem?_append_left hk] at hv
    have := a_ex_args E as 0 k v hv hn
    rwa [Nat.zero_add] at this
  · rw [List.getElem?_append_right (by omega), List.getElem?_replicate] at hv
    split at hv
    · cases hv; exact (hn rfl).elim
    · cases hv
