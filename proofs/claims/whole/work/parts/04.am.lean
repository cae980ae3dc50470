/-! THE ABSTRACT MACHINE: cells by their number (the order in which the law makes them), what they hold as functions -/
abbrev aS : Type := Nat → Nat → Int32
abbrev aG : Type := Nat → Int64
/-- a method: its class's number, its name, its code, its locals, what it gives back, frames and words of room -/
abbrev aM : Type := Nat × MethodName × ByteArray × Nat × Option FieldType × Nat × Nat
abbrev aQ : Type := Option Value → aS → aG → Prop
/-- what a step comes to: on in the frame; back with a value; a call (method, arguments, the stack below) -/
abbrev aO : Type := (Nat × List Value × List Value × aS × aG) ⊕ (Option Value ⊕ (aM × List Value × List Value))
def a_wr {α : Type} (S : Nat → α) (k : Nat) (f : α) : Nat → α := fun a => if a = k then f else S a
theorem a_wr_same {α : Type} (S : Nat → α) (k : Nat) (f : α) : a_wr S k f k = f := if_pos rfl
theorem a_wr_ne {α : Type} (S : Nat → α) {k a : Nat} (f : α) (h : a ≠ k) : a_wr S k f a = S a := if_neg h
theorem a_wr_wr {α : Type} (S : Nat → α) (k : Nat) (f g : α) : a_wr (a_wr S k f) k g = a_wr S k g := by
  funext a; by_cases h : a = k <;> simp [a_wr, h]
theorem a_wr_self {α : Type} (S : Nat → α) (k : Nat) : a_wr S k (S k) = S := by
  funext a; by_cases h : a = k <;> simp [a_wr, h]
theorem a_wr_comm {α : Type} (S : Nat → α) {k j : Nat} (h : k ≠ j) (f g : α) : a_wr (a_wr S k f) j g = a_wr (a_wr S j g) k f := by
  funext a; by_cases h1 : a = k
  · subst h1; simp [a_wr, h]
  · by_cases h2 : a = j <;> simp [a_wr, h1, h2, Ne.symm h]
def a_clsL : List Nat := [5, 4, 99, 3, 99, 99, 99, 3, 99, 99, 99, 3, 99, 99, 99, 3, 99, 99, 99, 1, 99, 99, 99, 99, 99, 0, 99, 99, 99, 99, 2, 99, 99, 99, 6, 99, 99, 99, 99, 99, 99, 99, 99, 99, 99]
def a_cls (k : Nat) : Nat := a_clsL.getD k 99
def a_rfL : List (List Nat) := [[1, 3, 7, 11, 15, 19, 25, 30, 33], [2], [], [4, 5, 6], [], [], [], [8, 9, 10], [], [], [], [12, 13, 14], [], [], [], [16, 17, 18], [], [], [], [20, 21, 22, 23, 24], [], [], [], [], [], [26, 27, 28, 29], [], [], [], [], [31, 32], [], [], [], [0, 35, 0, 36, 37, 38, 39, 0, 40, 41, 0, 42, 43, 0, 0, 0, 0, 0, 0, 0, 0, 44], [], [], [], [], [], [], [], [], [], []]
def a_rf (k j : Nat) : Nat := (a_rfL.getD k []).getD j 0
def a_lnL : List Nat := [0, 0, 56, 0, 25, 25, 10, 0, 25, 25, 10, 0, 25, 25, 10, 0, 25, 25, 10, 0, 25, 25, 25, 25, 25, 0, 14, 14, 14, 14, 0, 6, 6, 32, 0, 56, 67, 67, 67, 938, 134, 0, 6, 6, 32]
/-- the ints' places of a cell that is a row of ints (1000: the script, whose length stands at 1001; 1002: FACTORIALS) -/
def a_len (S : aS) (k : Nat) : Nat := if k = 1000 then (S 1001 0).toNatClampNeg else if k = 1002 then 6 else a_lnL.getD k 0
def a_fact (j : Nat) : Int32 := ([1, 1, 2, 6, 24, 120] : List Int32).getD j 0
def a_five (j : Nat) : Int64 := ([1, 100000, 10000000000, 1000000000000000] : List Int64).getD j 0
def a_get (S : aS) (k : Nat) (i : Nat) : Int32 := if k = 1002 then a_fact i else S k i
/-- a class's fields: 0 an int, 1 a long, 2 a reference -/
def a_fsL : List (List Nat) := [[2, 2, 2, 2, 0], [2, 2, 2, 2, 2, 0, 0], [2, 2, 0], [2, 2, 2, 0, 0, 0, 0, 0, 0, 0], [2, 0], [2, 2, 2, 2, 2, 2, 2, 2, 2, 0, 1], [0, 2, 0, 2, 2, 2, 2, 0, 2, 2, 0, 2, 2, 1, 0, 0, 0, 0, 0, 0, 0, 2]]
def a_fs (c : Nat) : List Nat := a_fsL.getD c []
def a_find {α : Type} : List (Nat × Nat × α) → Nat → Nat → Option α
  | [], _, _ => none
  | (a, b, v) :: r, c, i => if a = c ∧ b = i then some v else a_find r c i
def a_frL : List (Nat × Nat × Nat × Nat) := [(0, 9, 0, 0), (0, 15, 0, 1), (0, 18, 0, 2), (0, 21, 0, 3), (0, 24, 0, 4), (1, 9, 1, 0), (1, 15, 1, 1), (1, 18, 1, 2), (1, 21, 1, 3), (1, 24, 1, 4), (1, 27, 1, 5), (1, 31, 1, 6), (1, 34, 3, 6), (1, 43, 3, 7), (1, 67, 3, 5), (1, 85, 3, 3), (1, 91, 3, 4), (2, 9, 2, 0), (2, 15, 2, 1), (2, 18, 2, 2), (3, 9, 3, 0), (3, 15, 3, 1), (3, 18, 3, 2), (3, 21, 3, 3), (3, 25, 3, 4), (3, 28, 3, 5), (3, 31, 3, 6), (3, 34, 3, 7), (3, 37, 3, 8), (3, 40, 3, 9), (4, 9, 4, 0), (4, 15, 4, 1), (5, 10, 5, 0), (5, 19, 5, 1), (5, 23, 5, 2), (5, 26, 5, 3), (5, 29, 5, 4), (5, 35, 5, 5), (5, 42, 5, 6), (5, 49, 5, 7), (5, 53, 5, 8), (5, 57, 5, 9), (5, 61, 5, 10), (5, 90, 3, 3), (5, 93, 3, 4), (5, 103, 3, 5), (5, 106, 3, 6), (5, 109, 3, 7), (5, 112, 3, 8), (5, 115, 3, 9), (6, 7, 6, 1), (6, 13, 6, 3), (6, 16, 6, 4), (6, 19, 6, 5), (6, 22, 6, 6), (6, 25, 6, 8), (6, 28, 6, 9), (6, 32, 6, 11), (6, 35, 6, 12), (6, 38, 6, 21), (6, 45, 6, 0), (6, 63, 6, 2), (6, 78, 6, 7), (6, 81, 6, 14), (6, 84, 6, 15), (6, 87, 6, 16), (6, 115, 6, 10), (6, 169, 6, 17), (6, 172, 6, 18), (6, 222, 6, 19), (6, 225, 6, 20), (6, 233, 6, 13)]
def a_fr (c i : Nat) : Option (Nat × Nat) := a_find a_frL c i
def a_klL : List (Nat × Nat × Int64) := [(5, 246, 100000), (5, 279, 6364136223846793005), (5, 281, 1442695040888963407), (6, 61, 255), (6, 66, 9), (6, 72, 5), (6, 130, 25), (6, 145, -9), (6, 154, 2), (6, 164, -1), (6, 205, 3), (6, 207, 100000), (6, 228, 10), (6, 237, 20), (6, 239, 6364136223846793005), (6, 241, 1442695040888963407), (9, 98, 4294967295)]
def a_kl (c i : Nat) : Option Int64 := a_find a_klL c i
def a_kiL : List (Nat × Nat × Int32) := [(7, 265, 1431655765), (7, 266, 858993459), (7, 267, 252645135)]
def a_ki (c i : Nat) : Option Int32 := a_find a_kiL c i
def a_gsL : List (Nat × Nat × Nat) := [(5, 238, 1003), (5, 322, 1002)]
def a_gs (c i : Nat) : Option Nat := a_find a_gsL c i
def a_acL : List (Nat × Nat × Unit) := [(0, 31, ()), (3, 67, ())]
def a_ac (c i : Nat) : Option Unit := a_find a_acL c i
/-- Math.max 0, Math.min 1, Math.abs 2 -/
def a_mhL : List (Nat × Nat × Nat) := [(1, 80, 0), (1, 88, 1), (3, 91, 1), (4, 35, 1), (4, 41, 0), (5, 314, 2)]
def a_mh (c i : Nat) : Option Nat := a_find a_mhL c i
def mX0_init : aM := (0, yX0_init, cX0_init, 1, none, 1, 12)
def mX0_size : aM := (0, yX0_size, cX0_size, 1, (some .int), 0, 0)
def mX0_forgetAll : aM := (0, yX0_forgetAll, cX0_forgetAll, 1, none, 0, 0)
def mX0_add : aM := (0, yX0_add, cX0_add, 5, none, 2, 38)
def mX0_forgetFirst : aM := (0, yX0_forgetFirst, cX0_forgetFirst, 1, none, 1, 18)
def mX0_takeBackLast : aM := (0, yX0_takeBackLast, cX0_takeBackLast, 2, (some .int), 4, 90)
def mX0_takeBack : aM := (0, yX0_takeBack, cX0_takeBack, 5, none, 3, 66)
def mX1_init : aM := (1, yX1_init, cX1_init, 1, none, 1, 12)
def mX1_howMany : aM := (1, yX1_howMany, cX1_howMany, 3, (some .int), 4, 104)
def mX1_look : aM := (1, yX1_look, cX1_look, 4, none, 3, 81)
def mX1_lookAt : aM := (1, yX1_lookAt, cX1_lookAt, 13, none, 2, 49)
def mX1_countOf : aM := (1, yX1_countOf, cX1_countOf, 2, (some .int), 1, 20)
def mX1_sumOf : aM := (1, yX1_sumOf, cX1_sumOf, 2, (some .int), 1, 20)
def mX1_squaresOf : aM := (1, yX1_squaresOf, cX1_squaresOf, 2, (some .int), 1, 20)
def mX1_unevenness : aM := (1, yX1_unevenness, cX1_unevenness, 2, (some .int), 1, 20)
def mX1_dotsMarked : aM := (1, yX1_dotsMarked, cX1_dotsMarked, 5, (some .int), 3, 68)
def mX1_markOf : aM := (1, yX1_markOf, cX1_markOf, 3, (some .int), 2, 46)
def mX1_isDark : aM := (1, yX1_isDark, cX1_isDark, 7, (some .boolean), 1, 20)
def mX1_isPlace : aM := (1, yX1_isPlace, cX1_isPlace, 1, (some .boolean), 0, 0)
def mX2_init : aM := (2, yX2_init, cX2_init, 1, none, 1, 12)
def mX2_size : aM := (2, yX2_size, cX2_size, 1, (some .int), 0, 0)
def mX2_isFull : aM := (2, yX2_isFull, cX2_isFull, 1, (some .boolean), 0, 0)
def mX2_add : aM := (2, yX2_add, cX2_add, 3, (some .int), 1, 20)
def mX2_clear : aM := (2, yX2_clear, cX2_clear, 2, (some .int), 0, 0)
def mX2_agreesWith : aM := (2, yX2_agreesWith, cX2_agreesWith, 4, (some .boolean), 0, 0)
def mX3_init : aM := (3, yX3_init, cX3_init, 1, none, 1, 12)
def mX3_becomeText : aM := (3, yX3_becomeText, cX3_becomeText, 3, none, 2, 44)
def mX3_copyFrom : aM := (3, yX3_copyFrom, cX3_copyFrom, 2, none, 1, 23)
def mX3_dots : aM := (3, yX3_dots, cX3_dots, 1, (some .int), 0, 0)
def mX3_has : aM := (3, yX3_has, cX3_has, 2, (some .boolean), 0, 0)
def mX3_hasRow : aM := (3, yX3_hasRow, cX3_hasRow, 2, (some .boolean), 0, 0)
def mX3_greyOf : aM := (3, yX3_greyOf, cX3_greyOf, 3, (some .int), 0, 0)
def mX3_setGrey : aM := (3, yX3_setGrey, cX3_setGrey, 4, none, 1, 21)
def mX3_shownFor : aM := (3, yX3_shownFor, cX3_shownFor, 2, (some .int), 0, 0)
def mX3_setShown : aM := (3, yX3_setShown, cX3_setShown, 3, none, 1, 20)
def mX3_setRule : aM := (3, yX3_setRule, cX3_setRule, 4, none, 0, 0)
def mX3_setLie : aM := (3, yX3_setLie, cX3_setLie, 3, none, 0, 0)
def mX3_greysTogether : aM := (3, yX3_greysTogether, cX3_greysTogether, 3, (some .int), 1, 22)
def mX3_staysGrey : aM := (3, yX3_staysGrey, cX3_staysGrey, 4, (some .boolean), 1, 22)
def mX3_lighten : aM := (3, yX3_lighten, cX3_lighten, 3, none, 2, 44)
def mX3_whiten : aM := (3, yX3_whiten, cX3_whiten, 4, none, 2, 44)
def mX3_columnOf : aM := (3, yX3_columnOf, cX3_columnOf, 2, (some .int), 0, 0)
def mX3_rowOf : aM := (3, yX3_rowOf, cX3_rowOf, 2, (some .int), 0, 0)
def mX3_lyingUnder : aM := (3, yX3_lyingUnder, cX3_lyingUnder, 7, (some .int), 0, 0)
def mX3_greyAlone : aM := (3, yX3_greyAlone, cX3_greyAlone, 4, (some .int), 1, 26)
def mX3_pairs : aM := (3, yX3_pairs, cX3_pairs, 5, (some .int), 1, 26)
def mX3_difference : aM := (3, yX3_difference, cX3_difference, 7, (some .int), 1, 26)
def mX3_hangingTogether : aM := (3, yX3_hangingTogether, cX3_hangingTogether, 6, (some .int), 1, 24)
def mX3_withNeighbours : aM := (3, yX3_withNeighbours, cX3_withNeighbours, 5, (some .int), 0, 0)
def mX4_init : aM := (4, yX4_init, cX4_init, 1, none, 1, 12)
def mX4_size : aM := (4, yX4_size, cX4_size, 1, (some .int), 0, 0)
def mX4_isFull : aM := (4, yX4_isFull, cX4_isFull, 1, (some .boolean), 0, 0)
def mX4_append : aM := (4, yX4_append, cX4_append, 2, (some .int), 1, 20)
def mX4_clear : aM := (4, yX4_clear, cX4_clear, 2, (some .int), 0, 0)
def mX4_firstFault : aM := (4, yX4_firstFault, cX4_firstFault, 2, (some .int), 4, 85)
def mX4_fits : aM := (4, yX4_fits, cX4_fits, 4, (some .boolean), 3, 62)
def mX4_letterAt : aM := (4, yX4_letterAt, cX4_letterAt, 2, (some .int), 0, 0)
def mX4_figureAt : aM := (4, yX4_figureAt, cX4_figureAt, 2, (some .int), 1, 21)
def mX4_dotsTold : aM := (4, yX4_dotsTold, cX4_dotsTold, 1, (some .int), 2, 42)
def mX5_init : aM := (5, yX5_init, cX5_init, 1, none, 2, 32)
def mX5_write : aM := (5, yX5_write, cX5_write, 2, (some .int), 2, 41)
def mX5_wipe : aM := (5, yX5_wipe, cX5_wipe, 1, (some .int), 1, 21)
def mX5_fault : aM := (5, yX5_fault, cX5_fault, 1, (some .int), 5, 106)
def mX5_leaf : aM := (5, yX5_leaf, cX5_leaf, 1, (some .int), 5, 106)
def mX5_about : aM := (5, yX5_about, cX5_about, 2, (some .int), 5, 126)
def mX5_grey : aM := (5, yX5_grey, cX5_grey, 3, (some .int), 1, 22)
def mX5_shows : aM := (5, yX5_shows, cX5_shows, 2, (some .int), 1, 21)
def mX5_window : aM := (5, yX5_window, cX5_window, 3, (some .int), 3, 81)
def mX5_spread : aM := (5, yX5_spread, cX5_spread, 5, (some .int), 3, 81)
def mX5_mark : aM := (5, yX5_mark, cX5_mark, 2, (some .int), 3, 81)
def mX5_under : aM := (5, yX5_under, cX5_under, 2, (some .int), 1, 26)
def mX5_cleaned : aM := (5, yX5_cleaned, cX5_cleaned, 8, (some .int), 4, 104)
def mX5_paint : aM := (5, yX5_paint, cX5_paint, 5, (some .int), 3, 62)
def mX5_light : aM := (5, yX5_light, cX5_light, 2, (some .int), 3, 66)
def mX5_rule : aM := (5, yX5_rule, cX5_rule, 4, (some .int), 5, 126)
def mX5_table : aM := (5, yX5_table, cX5_table, 4, (some .int), 3, 62)
def mX5_lay : aM := (5, yX5_lay, cX5_lay, 3, (some .int), 5, 126)
def mX5_undo : aM := (5, yX5_undo, cX5_undo, 1, (some .int), 5, 111)
def mX5_fit : aM := (5, yX5_fit, cX5_fit, 5, (some .int), 2, 52)
def mX5_best : aM := (5, yX5_best, cX5_best, 2, (some .int), 5, 132)
def mX5_judge : aM := (5, yX5_judge, cX5_judge, 6, (some .int), 6, 153)
def mX5_share : aM := (5, yX5_share, cX5_share, 7, (some .int), 6, 148)
def mX5_see : aM := (5, yX5_see, cX5_see, 3, (some .int), 2, 42)
def mX5_unsee : aM := (5, yX5_unsee, cX5_unsee, 1, (some .int), 1, 21)
def mX5_ways : aM := (5, yX5_ways, cX5_ways, 6, (some .int), 4, 104)
def mX5_bleached : aM := (5, yX5_bleached, cX5_bleached, 9, (some .int), 6, 148)
def mX5_seed : aM := (5, yX5_seed, cX5_seed, 5, (some .long), 0, 0)
def mX5_drawn : aM := (5, yX5_drawn, cX5_drawn, 5, (some .int), 5, 126)
def mX5_keep : aM := (5, yX5_keep, cX5_keep, 2, (some .int), 5, 126)
def mX5_again : aM := (5, yX5_again, cX5_again, 2, (some .int), 5, 126)
def mX5_isSide : aM := (5, yX5_isSide, cX5_isSide, 1, (some .boolean), 0, 0)
def mX5_isFigure : aM := (5, yX5_isFigure, cX5_isFigure, 1, (some .boolean), 0, 0)
def mX5_isLight : aM := (5, yX5_isLight, cX5_isLight, 1, (some .boolean), 0, 0)
def mX5_isRule : aM := (5, yX5_isRule, cX5_isRule, 3, (some .boolean), 1, 20)
def mX5_isLie : aM := (5, yX5_isLie, cX5_isLie, 2, (some .boolean), 0, 0)
def mX5_isSlot : aM := (5, yX5_isSlot, cX5_isSlot, 1, (some .boolean), 0, 0)
def mX5_slotAt : aM := (5, yX5_slotAt, cX5_slotAt, 2, (some (.object "LeafInk$Sheet")), 0, 0)
def mX5_inkWhenCome : aM := (5, yX5_inkWhenCome, cX5_inkWhenCome, 3, (some .int), 5, 126)
def mX5_ordersWith : aM := (5, yX5_ordersWith, cX5_ordersWith, 3, (some .int), 1, 20)
def mX5_inkWhenBleached : aM := (5, yX5_inkWhenBleached, cX5_inkWhenBleached, 3, (some .int), 5, 126)
def mX5_bestLie : aM := (5, yX5_bestLie, cX5_bestLie, 8, (some .int), 2, 52)
def mX5_bestWindow : aM := (5, yX5_bestWindow, cX5_bestWindow, 9, (some .int), 4, 104)
def mX5_lieNumber : aM := (5, yX5_lieNumber, cX5_lieNumber, 2, (some .int), 0, 0)
def mX5_windowNumber : aM := (5, yX5_windowNumber, cX5_windowNumber, 2, (some .int), 0, 0)
def mX5_canBe : aM := (5, yX5_canBe, cX5_canBe, 8, (some .boolean), 5, 126)
def mX5_canPaint : aM := (5, yX5_canPaint, cX5_canPaint, 5, (some .boolean), 2, 44)
def mX5_canLighten : aM := (5, yX5_canLighten, cX5_canLighten, 3, (some .boolean), 3, 66)
def mX5_canRule : aM := (5, yX5_canRule, cX5_canRule, 5, (some .boolean), 2, 42)
def mX5_canTable : aM := (5, yX5_canTable, cX5_canTable, 4, (some .boolean), 2, 42)
def mX5_canLay : aM := (5, yX5_canLay, cX5_canLay, 4, (some .boolean), 1, 22)
def mX5_isSoMarked : aM := (5, yX5_isSoMarked, cX5_isSoMarked, 4, (some .boolean), 3, 81)
def mX5_fraction : aM := (5, yX5_fraction, cX5_fraction, 4, (some .int), 1, 25)
def mX5_commonDivisor : aM := (5, yX5_commonDivisor, cX5_commonDivisor, 6, (some .int), 0, 0)
def mX5_remainder : aM := (5, yX5_remainder, cX5_remainder, 2, (some .int), 0, 0)
def mX5_factorial : aM := (5, yX5_factorial, cX5_factorial, 1, (some .int), 0, 0)
def mX5_power : aM := (5, yX5_power, cX5_power, 4, (some .int), 0, 0)
def mX6_init : aM := (6, yX6_init, cX6_init, 1, none, 1, 21)
def mX6_in : aM := (6, yX6_in, cX6_in, 6, (some .boolean), 0, 0)
def mX6_has : aM := (6, yX6_has, cX6_has, 2, (some .boolean), 0, 0)
def mX6_many : aM := (6, yX6_many, cX6_many, 3, (some .int), 0, 0)
def mX6_power : aM := (6, yX6_power, cX6_power, 4, (some .int), 0, 0)
def mX6_divisor : aM := (6, yX6_divisor, cX6_divisor, 5, (some .int), 0, 0)
def mX6_fraction : aM := (6, yX6_fraction, cX6_fraction, 4, (some .int), 1, 24)
def mX6_openRule : aM := (6, yX6_openRule, cX6_openRule, 2, none, 0, 0)
def mX6_dotsOf : aM := (6, yX6_dotsOf, cX6_dotsOf, 1, (some .int), 0, 0)
def mX6_noDot : aM := (6, yX6_noDot, cX6_noDot, 2, (some .boolean), 1, 25)
def mX6_write : aM := (6, yX6_write, cX6_write, 2, (some .int), 1, 25)
def mX6_wipe : aM := (6, yX6_wipe, cX6_wipe, 2, (some .int), 0, 0)
def mX6_figureAt : aM := (6, yX6_figureAt, cX6_figureAt, 3, (some .int), 1, 25)
def mX6_readLeaf : aM := (6, yX6_readLeaf, cX6_readLeaf, 5, (some .int), 2, 47)
def mX6_fault : aM := (6, yX6_fault, cX6_fault, 1, (some .int), 3, 71)
def mX6_leaf : aM := (6, yX6_leaf, cX6_leaf, 2, (some .int), 3, 71)
def mX6_far : aM := (6, yX6_far, cX6_far, 2, (some .int), 0, 0)
def mX6_layWindow : aM := (6, yX6_layWindow, cX6_layWindow, 6, none, 1, 21)
def mX6_isDark : aM := (6, yX6_isDark, cX6_isDark, 6, (some .boolean), 0, 0)
def mX6_underOf : aM := (6, yX6_underOf, cX6_underOf, 6, (some .int), 1, 25)
def mX6_markOf : aM := (6, yX6_markOf, cX6_markOf, 6, (some .int), 2, 50)
def mX6_inkOf : aM := (6, yX6_inkOf, cX6_inkOf, 4, (some .int), 3, 75)
def mX6_marks : aM := (6, yX6_marks, cX6_marks, 5, (some .int), 3, 75)
def mX6_greys : aM := (6, yX6_greys, cX6_greys, 3, (some .int), 1, 20)
def mX6_about : aM := (6, yX6_about, cX6_about, 2, (some .int), 4, 99)
def mX6_grey : aM := (6, yX6_grey, cX6_grey, 3, (some .int), 2, 46)
def mX6_shows : aM := (6, yX6_shows, cX6_shows, 2, (some .int), 1, 25)
def mX6_window : aM := (6, yX6_window, cX6_window, 3, (some .int), 2, 46)
def mX6_spread : aM := (6, yX6_spread, cX6_spread, 5, (some .int), 2, 47)
def mX6_mark : aM := (6, yX6_mark, cX6_mark, 2, (some .int), 3, 75)
def mX6_under : aM := (6, yX6_under, cX6_under, 2, (some .int), 2, 50)
def mX6_hanging : aM := (6, yX6_hanging, cX6_hanging, 8, (some .int), 1, 21)
def mX6_cleaned : aM := (6, yX6_cleaned, cX6_cleaned, 5, (some .int), 4, 98)
def mX6_note : aM := (6, yX6_note, cX6_note, 2, none, 0, 0)
def mX6_paint : aM := (6, yX6_paint, cX6_paint, 6, (some .int), 2, 46)
def mX6_canLight : aM := (6, yX6_canLight, cX6_canLight, 4, (some .boolean), 1, 25)
def mX6_goLight : aM := (6, yX6_goLight, cX6_goLight, 3, none, 1, 20)
def mX6_light : aM := (6, yX6_light, cX6_light, 2, (some .int), 2, 48)
def mX6_isRule : aM := (6, yX6_isRule, cX6_isRule, 3, (some .boolean), 1, 25)
def mX6_goRule : aM := (6, yX6_goRule, cX6_goRule, 4, none, 0, 0)
def mX6_rule : aM := (6, yX6_rule, cX6_rule, 4, (some .int), 4, 98)
def mX6_table : aM := (6, yX6_table, cX6_table, 4, (some .int), 1, 25)
def mX6_isLie : aM := (6, yX6_isLie, cX6_isLie, 2, (some .boolean), 1, 25)
def mX6_lay : aM := (6, yX6_lay, cX6_lay, 3, (some .int), 4, 98)
def mX6_undo : aM := (6, yX6_undo, cX6_undo, 2, (some .int), 0, 0)
def mX6_layFit : aM := (6, yX6_layFit, cX6_layFit, 6, none, 2, 50)
def mX6_fit : aM := (6, yX6_fit, cX6_fit, 4, (some .int), 3, 75)
def mX6_bestLie : aM := (6, yX6_bestLie, cX6_bestLie, 5, (some .int), 3, 75)
def mX6_begin : aM := (6, yX6_begin, cX6_begin, 2, none, 0, 0)
def mX6_inkBy : aM := (6, yX6_inkBy, cX6_inkBy, 2, (some .int), 4, 98)
def mX6_bestRule : aM := (6, yX6_bestRule, cX6_bestRule, 7, (some .int), 5, 119)
def mX6_best : aM := (6, yX6_best, cX6_best, 2, (some .int), 6, 145)
def mX6_longPower : aM := (6, yX6_longPower, cX6_longPower, 6, (some .long), 0, 0)
def mX6_puts : aM := (6, yX6_puts, cX6_puts, 4, (some .boolean), 0, 0)
def mX6_lights : aM := (6, yX6_lights, cX6_lights, 3, (some .boolean), 2, 48)
def mX6_rules : aM := (6, yX6_rules, cX6_rules, 4, (some .boolean), 2, 47)
def mX6_lies : aM := (6, yX6_lies, cX6_lies, 3, (some .boolean), 2, 46)
def mX6_does : aM := (6, yX6_does, cX6_does, 8, (some .boolean), 4, 98)
def mX6_judge : aM := (6, yX6_judge, cX6_judge, 5, (some .int), 5, 125)
def mX6_orders : aM := (6, yX6_orders, cX6_orders, 4, (some .int), 0, 0)
def mX6_inkOfRows : aM := (6, yX6_inkOfRows, cX6_inkOfRows, 3, (some .int), 4, 98)
def mX6_share : aM := (6, yX6_share, cX6_share, 8, (some .int), 5, 120)
def mX6_see : aM := (6, yX6_see, cX6_see, 3, (some .int), 2, 46)
def mX6_unsee : aM := (6, yX6_unsee, cX6_unsee, 2, (some .int), 0, 0)
def mX6_ways : aM := (6, yX6_ways, cX6_ways, 6, (some .int), 5, 119)
def mX6_bleached : aM := (6, yX6_bleached, cX6_bleached, 10, (some .int), 4, 98)
def mX6_seed : aM := (6, yX6_seed, cX6_seed, 5, (some .long), 0, 0)
def mX6_drawn : aM := (6, yX6_drawn, cX6_drawn, 5, (some .int), 4, 98)
def mX6_keep : aM := (6, yX6_keep, cX6_keep, 3, (some .int), 4, 98)
def mX6_again : aM := (6, yX6_again, cX6_again, 3, (some .int), 4, 98)
def mJ6_bitCount_0f7a4 : aM := (7, yJ6_bitCount_0f7a4, cJ6_bitCount_0f7a4, 1, (some .int), 0, 0)
def mL_law : aM := (9, yL_law, cL_law, 4, (some .boolean), 7, 178)
/-- calls: kind (0 static, 1 of an object, 2 a nest mate's static), how many arguments without the object, the method -/
def a_crL0 : List (Nat × Nat × Nat × Nat × aM) := [(0, 28, 1, 0, mX0_forgetFirst), (0, 37, 1, 4, mX0_takeBack), (0, 41, 1, 3, mX3_setGrey), (0, 47, 1, 1, mX3_lighten), (0, 51, 1, 3, mX3_setRule), (0, 54, 1, 2, mX3_setShown), (0, 58, 1, 2, mX3_setLie)]
def a_crL1 : List (Nat × Nat × Nat × Nat × aM) := [(1, 39, 1, 2, mX1_look), (1, 46, 1, 2, mX1_dotsMarked), (1, 50, 0, 1, mJ6_bitCount_0f7a4), (1, 56, 1, 0, mX3_dots), (1, 59, 1, 3, mX1_lookAt), (1, 63, 1, 1, mX3_has), (1, 68, 1, 2, mX3_greyOf), (1, 71, 1, 1, mX3_greyAlone), (1, 74, 1, 1, mX3_columnOf), (1, 77, 1, 1, mX3_rowOf), (1, 94, 0, 1, mX1_isPlace), (1, 97, 1, 2, mX1_markOf), (1, 100, 1, 3, mX1_isDark)]
def a_crL2 : List (Nat × Nat × Nat × Nat × aM) := [(2, 22, 1, 0, mX2_isFull)]
def a_crL3 : List (Nat × Nat × Nat × Nat × aM) := [(3, 43, 1, 1, mX4_figureAt), (3, 49, 1, 0, mX3_dots), (3, 53, 1, 3, mX3_setGrey), (3, 57, 1, 2, mX3_setShown), (3, 61, 1, 3, mX3_setRule), (3, 64, 1, 2, mX3_setLie), (3, 73, 1, 1, mX3_has), (3, 80, 1, 2, mX3_greyOf), (3, 84, 1, 3, mX3_lyingUnder), (3, 88, 1, 1, mX3_shownFor), (3, 96, 1, 1, mX3_withNeighbours), (3, 77, 2, 1, mX5_isFigure)]
def a_crL4 : List (Nat × Nat × Nat × Nat × aM) := [(4, 19, 1, 0, mX4_isFull), (4, 23, 1, 1, mX4_fits), (4, 27, 1, 0, mX4_dotsTold), (4, 31, 1, 1, mX4_letterAt), (4, 44, 1, 1, mX4_figureAt)]
def a_crL5 : List (Nat × Nat × Nat × Nat × aM) := [(5, 65, 1, 0, mX4_isFull), (5, 69, 1, 1, mX4_append), (5, 73, 1, 0, mX4_clear), (5, 77, 1, 0, mX4_firstFault), (5, 80, 1, 1, mX3_becomeText), (5, 84, 1, 0, mX0_forgetAll), (5, 87, 1, 0, mX3_dots), (5, 96, 1, 2, mX1_howMany), (5, 100, 1, 0, mX3_greysTogether), (5, 118, 0, 2, mX5_lieNumber), (5, 122, 1, 0, mX0_size), (5, 125, 1, 0, mX2_size), (5, 126, 1, 0, mX4_size), (5, 127, 0, 1, mX5_isSide), (5, 131, 1, 1, mX3_has), (5, 134, 1, 2, mX3_greyOf), (5, 137, 0, 1, mX5_isFigure), (5, 140, 1, 1, mX3_shownFor), (5, 143, 1, 3, mX1_lookAt), (5, 147, 1, 1, mX1_countOf), (5, 150, 1, 1, mX1_sumOf), (5, 153, 1, 1, mX1_squaresOf), (5, 156, 0, 3, mX5_fraction), (5, 160, 1, 1, mX1_unevenness), (5, 163, 1, 2, mX1_markOf), (5, 166, 1, 3, mX3_lyingUnder), (5, 170, 1, 2, mX1_look), (5, 174, 1, 2, mX1_dotsMarked), (5, 177, 1, 2, mX3_hangingTogether), (5, 180, 0, 1, mJ6_bitCount_0f7a4), (5, 185, 1, 4, mX0_add), (5, 189, 1, 3, mX3_setGrey), (5, 193, 0, 1, mX5_isLight), (5, 196, 1, 1, mX3_staysGrey), (5, 199, 1, 1, mX3_lighten), (5, 203, 0, 3, mX5_isRule), (5, 207, 1, 3, mX3_setRule), (5, 210, 1, 2, mX3_setShown), (5, 214, 0, 2, mX5_isLie), (5, 218, 1, 2, mX3_setLie), (5, 221, 1, 1, mX0_takeBackLast), (5, 225, 1, 2, mX3_pairs), (5, 228, 1, 2, mX3_difference), (5, 231, 1, 0, mX5_bestLie), (5, 234, 1, 1, mX5_bestWindow), (5, 242, 1, 1, mX3_copyFrom), (5, 248, 1, 1, mX5_canBe), (5, 251, 1, 1, mX3_hasRow), (5, 254, 1, 1, mX5_inkWhenCome), (5, 257, 0, 2, mX5_ordersWith), (5, 260, 0, 1, mX5_factorial), (5, 263, 1, 0, mX2_isFull), (5, 264, 1, 2, mX2_add), (5, 266, 1, 0, mX2_clear), (5, 267, 1, 1, mX2_agreesWith), (5, 270, 0, 2, mX5_windowNumber), (5, 273, 1, 2, mX5_inkWhenBleached), (5, 276, 0, 2, mX5_power), (5, 283, 0, 2, mX5_remainder), (5, 286, 0, 1, mX5_isSlot), (5, 289, 1, 1, mX5_slotAt), (5, 293, 1, 2, mX3_whiten), (5, 296, 1, 3, mX5_canPaint), (5, 299, 1, 1, mX5_canLighten), (5, 302, 1, 3, mX5_canRule), (5, 305, 1, 2, mX5_canTable), (5, 308, 1, 2, mX5_canLay), (5, 311, 1, 2, mX5_isSoMarked), (5, 319, 0, 2, mX5_commonDivisor)]
def a_crL6 : List (Nat × Nat × Nat × Nat × aM) := [(6, 41, 0, 1, mX6_openRule), (6, 49, 0, 2, mX6_divisor), (6, 53, 0, 1, mX6_dotsOf), (6, 57, 0, 3, mX6_in), (6, 68, 1, 1, mX6_figureAt), (6, 74, 1, 0, mX6_readLeaf), (6, 90, 0, 2, mX6_far), (6, 93, 1, 3, mX6_layWindow), (6, 97, 1, 2, mX6_isDark), (6, 101, 0, 4, mX6_underOf), (6, 105, 1, 2, mX6_markOf), (6, 109, 1, 2, mX6_marks), (6, 112, 0, 1, mX6_greys), (6, 118, 1, 1, mX6_noDot), (6, 122, 0, 3, mX6_fraction), (6, 126, 0, 2, mX6_has), (6, 132, 1, 1, mX6_inkOf), (6, 135, 0, 3, mX6_hanging), (6, 139, 0, 1, mX6_many), (6, 142, 1, 0, mX6_note), (6, 147, 0, 2, mX6_canLight), (6, 150, 0, 2, mX6_goLight), (6, 156, 0, 3, mX6_isRule), (6, 160, 0, 4, mX6_goRule), (6, 166, 0, 2, mX6_isLie), (6, 175, 1, 2, mX6_layFit), (6, 179, 1, 0, mX6_begin), (6, 182, 1, 1, mX6_inkBy), (6, 185, 1, 0, mX6_bestLie), (6, 188, 1, 1, mX6_bestRule), (6, 192, 1, 3, mX6_puts), (6, 196, 1, 1, mX6_lights), (6, 199, 1, 3, mX6_rules), (6, 202, 1, 2, mX6_lies), (6, 209, 0, 2, mX6_longPower), (6, 213, 1, 1, mX6_does), (6, 216, 1, 1, mX6_inkOfRows), (6, 219, 0, 2, mX6_orders), (6, 230, 0, 2, mX6_power)]
def a_crL9 : List (Nat × Nat × Nat × Nat × aM) := [(9, 13, 1, 1, mX5_write), (9, 17, 1, 1, mX6_write), (9, 18, 1, 0, mX5_wipe), (9, 22, 1, 0, mX6_wipe), (9, 23, 1, 0, mX5_fault), (9, 26, 1, 0, mX6_fault), (9, 27, 1, 0, mX5_leaf), (9, 30, 1, 0, mX6_leaf), (9, 31, 1, 1, mX5_about), (9, 34, 1, 1, mX6_about), (9, 35, 1, 2, mX5_grey), (9, 39, 1, 2, mX6_grey), (9, 40, 1, 1, mX5_shows), (9, 43, 1, 1, mX6_shows), (9, 44, 1, 2, mX5_window), (9, 47, 1, 2, mX6_window), (9, 48, 1, 3, mX5_spread), (9, 52, 1, 3, mX6_spread), (9, 53, 1, 1, mX5_mark), (9, 56, 1, 1, mX6_mark), (9, 57, 1, 1, mX5_under), (9, 60, 1, 1, mX6_under), (9, 61, 1, 1, mX5_cleaned), (9, 64, 1, 1, mX6_cleaned), (9, 65, 1, 3, mX5_paint), (9, 69, 1, 3, mX6_paint), (9, 70, 1, 1, mX5_light), (9, 73, 1, 1, mX6_light), (9, 74, 1, 3, mX5_rule), (9, 77, 1, 3, mX6_rule), (9, 78, 1, 2, mX5_table), (9, 81, 1, 2, mX6_table), (9, 82, 1, 2, mX5_lay), (9, 85, 1, 2, mX6_lay), (9, 86, 1, 0, mX5_undo), (9, 89, 1, 0, mX6_undo), (9, 90, 1, 3, mX5_fit), (9, 93, 1, 3, mX6_fit), (9, 94, 1, 1, mX5_best), (9, 97, 1, 1, mX6_best), (9, 100, 1, 2, mX5_judge), (9, 104, 1, 2, mX6_judge), (9, 105, 1, 2, mX5_share), (9, 109, 1, 2, mX6_share), (9, 110, 1, 2, mX5_see), (9, 113, 1, 2, mX6_see), (9, 114, 1, 0, mX5_unsee), (9, 117, 1, 0, mX6_unsee), (9, 118, 1, 1, mX5_ways), (9, 121, 1, 1, mX6_ways), (9, 122, 1, 4, mX5_bleached), (9, 126, 1, 4, mX6_bleached), (9, 127, 1, 1, mX5_seed), (9, 131, 1, 1, mX6_seed), (9, 132, 1, 1, mX5_drawn), (9, 135, 1, 1, mX6_drawn), (9, 136, 1, 1, mX5_keep), (9, 139, 1, 1, mX6_keep), (9, 140, 1, 1, mX5_again), (9, 143, 1, 1, mX6_again)]
def a_crL : List (Nat × Nat × Nat × Nat × aM) := a_crL0 ++ (a_crL1 ++ (a_crL2 ++ (a_crL3 ++ (a_crL4 ++ (a_crL5 ++ (a_crL6 ++ (a_crL9)))))))
def a_cr (c i : Nat) : Option (Nat × Nat × aM) := a_find a_crL c i
-- shapes of the stack
abbrev a_in (i : Int32) (n : Nat) : Prop := 0 ≤ i.toInt ∧ i.toInt < (n : Int)
def a_ln (len n : Nat) (o : Option aO) : Option aO := if len = n then o else none
def a_i1 (st : List Value) (k : Int32 → List Value → Option aO) : Option aO := match st with
  | .int x :: r => k x r
  | _ => none
def a_r1 (st : List Value) (k : Nat → List Value → Option aO) : Option aO := match st with
  | .ref x :: r => k x r
  | _ => none
def a_l1 (st : List Value) (k : Int64 → List Value → Option aO) : Option aO := match st with
  | .long x :: r => k x r
  | _ => none
def a_i2 (st : List Value) (k : Int32 → Int32 → List Value → Option aO) : Option aO := a_i1 st fun y r => a_i1 r fun x r => k x y r
def a_l2 (st : List Value) (k : Int64 → Int64 → List Value → Option aO) : Option aO := a_l1 st fun y r => a_l1 r fun x r => k x y r
def a_g (c : Prop) [Decidable c] (o : Option aO) : Option aO := if c then o else none
def a_nx (pc : Nat) (L st : List Value) (S : aS) (G : aG) : Option aO := some (.inl (pc, L, st, S, G))
/-- a jump's target -/
def a_tg (pc : Nat) (off : Int) : Nat := ((pc : Int) + off).toNat
def a_jp (pc : Nat) (off : Int) (k : Nat → Option aO) : Option aO := if 0 ≤ (pc : Int) + off then k (a_tg pc off) else none
def a_ld (L : List Value) (i : Nat) : Value := L.getD i .null
/-- a value of one word into a local: nothing of two words may end there -/
def a_st (L : List Value) (i : Nat) (v : Value) (k : List Value → Option aO) : Option aO :=
  if i < L.length ∧ (i = 0 ∨ (L.getD (i - 1) .null).category = 1) then k (L.set i v) else none
def a_st2 (L : List Value) (i : Nat) (v : Value) (k : List Value → Option aO) : Option aO :=
  if i + 1 < L.length ∧ (i = 0 ∨ (L.getD (i - 1) .null).category = 1) then k ((L.set i v).set (i + 1) .null) else none
def a_cnd (c : ClassFile.Cond) (x y : Int32) : Bool := match c with
  | .eq => decide (x = y)
  | .ne => !decide (x = y)
  | .lt => decide (x < y)
  | .ge => decide (y ≤ x)
  | .gt => decide (y < x)
  | .le => decide (x ≤ y)
/-- the arguments of a call, first one first, out of the stack -/
def a_take : Nat → List Value → List Value → Option (List Value × List Value)
  | 0, acc, st => some (acc, st)
  | n + 1, acc, v :: st => a_take n (v :: acc) st
  | _ + 1, _, [] => none
def a_ex : List Value → List Value
  | [] => []
  | v :: r => if v.category = 2 then v :: .null :: a_ex r else v :: a_ex r
def a_words (st : List Value) : Nat := (st.map fun v => v.category).sum
def a_inv (m : aM) (i : Nat) (kinds : List Nat) (extra : Nat) (st : List Value) : Option aO := match a_cr m.1 i with
  | some (kd, n, m') => if kd ∈ kinds ∧ m'.2.2.2.2.2.1 + 1 ≤ m.2.2.2.2.2.1 ∧ 8 + (m'.2.2.2.1 + 11) + m'.2.2.2.2.2.2 ≤ m.2.2.2.2.2.2 then (match a_take (n + extra) [] st with
    | some (as, r) => if a_words r ≤ 8 ∧ (a_ex as).length ≤ m'.2.2.2.1 then (match kd, as with
      | 1, .ref a :: as' => a_g (a_cls a = m'.1) (some (.inr (.inr (m', .ref a :: as', r))))
      | 1, _ => none
      | _, as => some (.inr (.inr (m', as, r)))) else none
    | none => none) else none
  | none => none
def a_mth (m : aM) (t pc : Nat) (L st : List Value) (S : aS) (G : aG) : Option aO := if 1 ≤ m.2.2.2.2.2.1 then (match t with
  | 0 => a_i2 st fun x y r => if a_words r + 13 ≤ m.2.2.2.2.2.2 then a_nx (pc + 3) L (.int (if x < y then y else x) :: r) S G else none
  | 1 => a_i2 st fun x y r => if a_words r + 13 ≤ m.2.2.2.2.2.2 then a_nx (pc + 3) L (.int (if y < x then y else x) :: r) S G else none
  | _ => a_i1 st fun x r => if a_words r + 13 ≤ m.2.2.2.2.2.2 then a_nx (pc + 3) L (.int (if 0 ≤ x then x else 0 - x) :: r) S G else none) else none
def a_okr (r : Value) (m : aM) : Bool := match r, m.2.2.2.2.1 with
  | .int _, some .int => true
  | .int v, some .boolean => decide (v = 0 ∨ v = 1)
  | .long _, some .long => true
  | .ref _, some (.object _) => true
  | _, _ => false
