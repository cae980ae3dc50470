def a_T0 : List Cond := lw_tbl.filter goodWord
theorem a_mT {w : Cond} (i : Nat) (h : lw_tbl[i]? = some w) (hg : goodWord w = true) : w ∈ a_T0 := List.mem_filter.mpr ⟨List.mem_of_getElem? h, hg⟩
def a_cn (c : Nat) : String := ([RX0, RX1, RX2, RX3, RX4, RX5, RX6, RJ6, RJ9, RL] : List String).getD c ""
def a_okM (m : aM) : Prop := Cond.code m.2.1 m.2.2.1 m.2.2.2.1 m.2.2.2.2.1 ∈ a_T0 ∧ m.2.1.cls = a_cn m.1 ∧ plainName m.2.1.cls = true ∧ (m.2.1.cls ≠ "java/lang/invoke/MethodHandle" ∧ m.2.1.cls ≠ "java/lang/invoke/VarHandle") ∧ Cond.initialized m.2.1.cls ∈ a_T0
theorem a_in0 : Cond.initialized RX0 ∈ a_T0 := a_mT 44 (by decide +kernel) (by decide +kernel)
theorem a_in1 : Cond.initialized RX1 ∈ a_T0 := a_mT 43 (by decide +kernel) (by decide +kernel)
theorem a_in2 : Cond.initialized RX2 ∈ a_T0 := a_mT 45 (by decide +kernel) (by decide +kernel)
theorem a_in3 : Cond.initialized RX3 ∈ a_T0 := a_mT 42 (by decide +kernel) (by decide +kernel)
theorem a_in4 : Cond.initialized RX4 ∈ a_T0 := a_mT 41 (by decide +kernel) (by decide +kernel)
theorem a_in5 : Cond.initialized RX5 ∈ a_T0 := a_mT 40 (by decide +kernel) (by decide +kernel)
theorem a_in6 : Cond.initialized RX6 ∈ a_T0 := a_mT 46 (by decide +kernel) (by decide +kernel)
theorem a_in7 : Cond.initialized RJ6 ∈ a_T0 := a_mT 48 (by decide +kernel) (by decide +kernel)
theorem a_in8 : Cond.initialized RJ9 ∈ a_T0 := a_mT 47 (by decide +kernel) (by decide +kernel)
theorem a_inS : Cond.initialized "java/lang/System" ∈ a_T0 := a_mT 49 (by decide +kernel) (by decide +kernel)
theorem a_acW : Cond.native arraycopyName ∈ a_T0 ∧ Cond.static arraycopyName ∈ a_T0 := ⟨a_mT 487 (by decide +kernel) (by decide +kernel), a_mT 486 (by decide +kernel) (by decide +kernel)⟩
theorem a_acL_ok : ∀ q ∈ a_acL, Cond.methodLink (a_cn q.1) q.2.1 arraycopyName ∈ a_T0 := List.forall_mem_cons.mpr ⟨a_mT 485 (by decide +kernel) (by decide +kernel), List.forall_mem_cons.mpr ⟨a_mT 579 (by decide +kernel) (by decide +kernel), fun _ h => absurd h List.not_mem_nil⟩⟩
set_option maxRecDepth 100000 in
theorem a_ok_X0_forgetFirst : a_okM mX0_forgetFirst := ⟨a_mT 484 rfl rfl, rfl, by decide +kernel, ⟨by decide +kernel, by decide +kernel⟩, a_in0⟩
theorem a_iv_X0_forgetFirst : Cond.instanceMethod yX0_forgetFirst ∈ a_T0 ∧ Cond.selects yX0_forgetFirst.cls yX0_forgetFirst yX0_forgetFirst ∈ a_T0 := ⟨a_mT 483 (by decide +kernel) (by decide +kernel), a_mT 5 (by decide +kernel) (by decide +kernel)⟩
set_option maxRecDepth 100000 in
theorem a_ok_X0_takeBack : a_okM mX0_takeBack := ⟨a_mT 536 rfl rfl, rfl, by decide +kernel, ⟨by decide +kernel, by decide +kernel⟩, a_in0⟩
theorem a_iv_X0_takeBack : Cond.instanceMethod yX0_takeBack ∈ a_T0 ∧ Cond.selects yX0_takeBack.cls yX0_takeBack yX0_takeBack ∈ a_T0 := ⟨a_mT 535 (by decide +kernel) (by decide +kernel), a_mT 6 (by decide +kernel) (by decide +kernel)⟩
set_option maxRecDepth 100000 in
theorem a_ok_X3_setGrey : a_okM mX3_setGrey := ⟨a_mT 288 rfl rfl, rfl, by decide +kernel, ⟨by decide +kernel, by decide +kernel⟩, a_in3⟩
theorem a_iv_X3_setGrey : Cond.instanceMethod yX3_setGrey ∈ a_T0 ∧ Cond.selects yX3_setGrey.cls yX3_setGrey yX3_setGrey ∈ a_T0 := ⟨a_mT 286 (by decide +kernel) (by decide +kernel), a_mT 287 (by decide +kernel) (by decide +kernel)⟩
set_option maxRecDepth 100000 in
theorem a_ok_X3_lighten : a_okM mX3_lighten := ⟨a_mT 503 rfl rfl, rfl, by decide +kernel, ⟨by decide +kernel, by decide +kernel⟩, a_in3⟩
theorem a_iv_X3_lighten : Cond.instanceMethod yX3_lighten ∈ a_T0 ∧ Cond.selects yX3_lighten.cls yX3_lighten yX3_lighten ∈ a_T0 := ⟨a_mT 501 (by decide +kernel) (by decide +kernel), a_mT 502 (by decide +kernel) (by decide +kernel)⟩
set_option maxRecDepth 100000 in
theorem a_ok_X3_setRule : a_okM mX3_setRule := ⟨a_mT 303 rfl rfl, rfl, by decide +kernel, ⟨by decide +kernel, by decide +kernel⟩, a_in3⟩
theorem a_iv_X3_setRule : Cond.instanceMethod yX3_setRule ∈ a_T0 ∧ Cond.selects yX3_setRule.cls yX3_setRule yX3_setRule ∈ a_T0 := ⟨a_mT 301 (by decide +kernel) (by decide +kernel), a_mT 302 (by decide +kernel) (by decide +kernel)⟩
set_option maxRecDepth 100000 in
theorem a_ok_X3_setShown : a_okM mX3_setShown := ⟨a_mT 296 rfl rfl, rfl, by decide +kernel, ⟨by decide +kernel, by decide +kernel⟩, a_in3⟩
theorem a_iv_X3_setShown : Cond.instanceMethod yX3_setShown ∈ a_T0 ∧ Cond.selects yX3_setShown.cls yX3_setShown yX3_setShown ∈ a_T0 := ⟨a_mT 294 (by decide +kernel) (by decide +kernel), a_mT 295 (by decide +kernel) (by decide +kernel)⟩
set_option maxRecDepth 100000 in
theorem a_ok_X3_setLie : a_okM mX3_setLie := ⟨a_mT 307 rfl rfl, rfl, by decide +kernel, ⟨by decide +kernel, by decide +kernel⟩, a_in3⟩
theorem a_iv_X3_setLie : Cond.instanceMethod yX3_setLie ∈ a_T0 ∧ Cond.selects yX3_setLie.cls yX3_setLie yX3_setLie ∈ a_T0 := ⟨a_mT 305 (by decide +kernel) (by decide +kernel), a_mT 306 (by decide +kernel) (by decide +kernel)⟩
set_option maxRecDepth 100000 in
theorem a_ok_X1_look : a_okM mX1_look := ⟨a_mT 324 rfl rfl, rfl, by decide +kernel, ⟨by decide +kernel, by decide +kernel⟩, a_in1⟩
theorem a_iv_X1_look : Cond.instanceMethod yX1_look ∈ a_T0 ∧ Cond.selects yX1_look.cls yX1_look yX1_look ∈ a_T0 := ⟨a_mT 322 (by decide +kernel) (by decide +kernel), a_mT 323 (by decide +kernel) (by decide +kernel)⟩
set_option maxRecDepth 100000 in
theorem a_ok_X1_dotsMarked : a_okM mX1_dotsMarked := ⟨a_mT 362 rfl rfl, rfl, by decide +kernel, ⟨by decide +kernel, by decide +kernel⟩, a_in1⟩
theorem a_iv_X1_dotsMarked : Cond.instanceMethod yX1_dotsMarked ∈ a_T0 ∧ Cond.selects yX1_dotsMarked.cls yX1_dotsMarked yX1_dotsMarked ∈ a_T0 := ⟨a_mT 360 (by decide +kernel) (by decide +kernel), a_mT 361 (by decide +kernel) (by decide +kernel)⟩
set_option maxRecDepth 100000 in
theorem a_ok_J6_bitCount_0f7a4 : a_okM mJ6_bitCount_0f7a4 := ⟨a_mT 376 rfl rfl, rfl, by decide +kernel, ⟨by decide +kernel, by decide +kernel⟩, a_in7⟩
theorem a_st_J6_bitCount_0f7a4 : Cond.static yJ6_bitCount_0f7a4 ∈ a_T0 := a_mT 375 (by decide +kernel) (by decide +kernel)
set_option maxRecDepth 100000 in
theorem a_ok_X3_dots : a_okM mX3_dots := ⟨a_mT 284 rfl rfl, rfl, by decide +kernel, ⟨by decide +kernel, by decide +kernel⟩, a_in3⟩
theorem a_iv_X3_dots : Cond.instanceMethod yX3_dots ∈ a_T0 ∧ Cond.selects yX3_dots.cls yX3_dots yX3_dots ∈ a_T0 := ⟨a_mT 282 (by decide +kernel) (by decide +kernel), a_mT 283 (by decide +kernel) (by decide +kernel)⟩
set_option maxRecDepth 100000 in
theorem a_ok_X1_lookAt : a_okM mX1_lookAt := ⟨a_mT 329 rfl rfl, rfl, by decide +kernel, ⟨by decide +kernel, by decide +kernel⟩, a_in1⟩
theorem a_iv_X1_lookAt : Cond.instanceMethod yX1_lookAt ∈ a_T0 ∧ Cond.selects yX1_lookAt.cls yX1_lookAt yX1_lookAt ∈ a_T0 := ⟨a_mT 327 (by decide +kernel) (by decide +kernel), a_mT 328 (by decide +kernel) (by decide +kernel)⟩
set_option maxRecDepth 100000 in
theorem a_ok_X3_has : a_okM mX3_has := ⟨a_mT 292 rfl rfl, rfl, by decide +kernel, ⟨by decide +kernel, by decide +kernel⟩, a_in3⟩
theorem a_iv_X3_has : Cond.instanceMethod yX3_has ∈ a_T0 ∧ Cond.selects yX3_has.cls yX3_has yX3_has ∈ a_T0 := ⟨a_mT 290 (by decide +kernel) (by decide +kernel), a_mT 291 (by decide +kernel) (by decide +kernel)⟩
set_option maxRecDepth 100000 in
theorem a_ok_X3_greyOf : a_okM mX3_greyOf := ⟨a_mT 334 rfl rfl, rfl, by decide +kernel, ⟨by decide +kernel, by decide +kernel⟩, a_in3⟩
theorem a_iv_X3_greyOf : Cond.instanceMethod yX3_greyOf ∈ a_T0 ∧ Cond.selects yX3_greyOf.cls yX3_greyOf yX3_greyOf ∈ a_T0 := ⟨a_mT 332 (by decide +kernel) (by decide +kernel), a_mT 333 (by decide +kernel) (by decide +kernel)⟩
set_option maxRecDepth 100000 in
theorem a_ok_X3_greyAlone : a_okM mX3_greyAlone := ⟨a_mT 338 rfl rfl, rfl, by decide +kernel, ⟨by decide +kernel, by decide +kernel⟩, a_in3⟩
theorem a_iv_X3_greyAlone : Cond.instanceMethod yX3_greyAlone ∈ a_T0 ∧ Cond.selects yX3_greyAlone.cls yX3_greyAlone yX3_greyAlone ∈ a_T0 := ⟨a_mT 336 (by decide +kernel) (by decide +kernel), a_mT 337 (by decide +kernel) (by decide +kernel)⟩
set_option maxRecDepth 100000 in
theorem a_ok_X3_columnOf : a_okM mX3_columnOf := ⟨a_mT 352 rfl rfl, rfl, by decide +kernel, ⟨by decide +kernel, by decide +kernel⟩, a_in3⟩
theorem a_iv_X3_columnOf : Cond.instanceMethod yX3_columnOf ∈ a_T0 ∧ Cond.selects yX3_columnOf.cls yX3_columnOf yX3_columnOf ∈ a_T0 := ⟨a_mT 350 (by decide +kernel) (by decide +kernel), a_mT 351 (by decide +kernel) (by decide +kernel)⟩
set_option maxRecDepth 100000 in
theorem a_ok_X3_rowOf : a_okM mX3_rowOf := ⟨a_mT 356 rfl rfl, rfl, by decide +kernel, ⟨by decide +kernel, by decide +kernel⟩, a_in3⟩
theorem a_iv_X3_rowOf : Cond.instanceMethod yX3_rowOf ∈ a_T0 ∧ Cond.selects yX3_rowOf.cls yX3_rowOf yX3_rowOf ∈ a_T0 := ⟨a_mT 354 (by decide +kernel) (by decide +kernel), a_mT 355 (by decide +kernel) (by decide +kernel)⟩
set_option maxRecDepth 100000 in
theorem a_ok_X1_isPlace : a_okM mX1_isPlace := ⟨a_mT 369 rfl rfl, rfl, by decide +kernel, ⟨by decide +kernel, by decide +kernel⟩, a_in1⟩
theorem a_st_X1_isPlace : Cond.static yX1_isPlace ∈ a_T0 := a_mT 368 (by decide +kernel) (by decide +kernel)
set_option maxRecDepth 100000 in
theorem a_ok_X1_markOf : a_okM mX1_markOf := ⟨a_mT 366 rfl rfl, rfl, by decide +kernel, ⟨by decide +kernel, by decide +kernel⟩, a_in1⟩
theorem a_iv_X1_markOf : Cond.instanceMethod yX1_markOf ∈ a_T0 ∧ Cond.selects yX1_markOf.cls yX1_markOf yX1_markOf ∈ a_T0 := ⟨a_mT 364 (by decide +kernel) (by decide +kernel), a_mT 365 (by decide +kernel) (by decide +kernel)⟩
set_option maxRecDepth 100000 in
theorem a_ok_X1_isDark : a_okM mX1_isDark := ⟨a_mT 373 rfl rfl, rfl, by decide +kernel, ⟨by decide +kernel, by decide +kernel⟩, a_in1⟩
theorem a_iv_X1_isDark : Cond.instanceMethod yX1_isDark ∈ a_T0 ∧ Cond.selects yX1_isDark.cls yX1_isDark yX1_isDark ∈ a_T0 := ⟨a_mT 372 (by decide +kernel) (by decide +kernel), a_mT 3 (by decide +kernel) (by decide +kernel)⟩
set_option maxRecDepth 100000 in
theorem a_ok_X2_isFull : a_okM mX2_isFull := ⟨a_mT 640 rfl rfl, rfl, by decide +kernel, ⟨by decide +kernel, by decide +kernel⟩, a_in2⟩
theorem a_iv_X2_isFull : Cond.instanceMethod yX2_isFull ∈ a_T0 ∧ Cond.selects yX2_isFull.cls yX2_isFull yX2_isFull ∈ a_T0 := ⟨a_mT 638 (by decide +kernel) (by decide +kernel), a_mT 639 (by decide +kernel) (by decide +kernel)⟩
set_option maxRecDepth 100000 in
theorem a_ok_X4_figureAt : a_okM mX4_figureAt := ⟨a_mT 265 rfl rfl, rfl, by decide +kernel, ⟨by decide +kernel, by decide +kernel⟩, a_in4⟩
theorem a_iv_X4_figureAt : Cond.instanceMethod yX4_figureAt ∈ a_T0 ∧ Cond.selects yX4_figureAt.cls yX4_figureAt yX4_figureAt ∈ a_T0 := ⟨a_mT 263 (by decide +kernel) (by decide +kernel), a_mT 264 (by decide +kernel) (by decide +kernel)⟩
set_option maxRecDepth 100000 in
theorem a_ok_X3_lyingUnder : a_okM mX3_lyingUnder := ⟨a_mT 343 rfl rfl, rfl, by decide +kernel, ⟨by decide +kernel, by decide +kernel⟩, a_in3⟩
theorem a_iv_X3_lyingUnder : Cond.instanceMethod yX3_lyingUnder ∈ a_T0 ∧ Cond.selects yX3_lyingUnder.cls yX3_lyingUnder yX3_lyingUnder ∈ a_T0 := ⟨a_mT 341 (by decide +kernel) (by decide +kernel), a_mT 342 (by decide +kernel) (by decide +kernel)⟩
set_option maxRecDepth 100000 in
theorem a_ok_X3_shownFor : a_okM mX3_shownFor := ⟨a_mT 347 rfl rfl, rfl, by decide +kernel, ⟨by decide +kernel, by decide +kernel⟩, a_in3⟩
theorem a_iv_X3_shownFor : Cond.instanceMethod yX3_shownFor ∈ a_T0 ∧ Cond.selects yX3_shownFor.cls yX3_shownFor yX3_shownFor ∈ a_T0 := ⟨a_mT 345 (by decide +kernel) (by decide +kernel), a_mT 346 (by decide +kernel) (by decide +kernel)⟩
set_option maxRecDepth 100000 in
theorem a_ok_X3_withNeighbours : a_okM mX3_withNeighbours := ⟨a_mT 471 rfl rfl, rfl, by decide +kernel, ⟨by decide +kernel, by decide +kernel⟩, a_in3⟩
theorem a_iv_X3_withNeighbours : Cond.instanceMethod yX3_withNeighbours ∈ a_T0 ∧ Cond.selects yX3_withNeighbours.cls yX3_withNeighbours yX3_withNeighbours ∈ a_T0 := ⟨a_mT 470 (by decide +kernel) (by decide +kernel), a_mT 4 (by decide +kernel) (by decide +kernel)⟩
set_option maxRecDepth 100000 in
theorem a_ok_X4_isFull : a_okM mX4_isFull := ⟨a_mT 228 rfl rfl, rfl, by decide +kernel, ⟨by decide +kernel, by decide +kernel⟩, a_in4⟩
theorem a_iv_X4_isFull : Cond.instanceMethod yX4_isFull ∈ a_T0 ∧ Cond.selects yX4_isFull.cls yX4_isFull yX4_isFull ∈ a_T0 := ⟨a_mT 226 (by decide +kernel) (by decide +kernel), a_mT 227 (by decide +kernel) (by decide +kernel)⟩
set_option maxRecDepth 100000 in
theorem a_ok_X4_fits : a_okM mX4_fits := ⟨a_mT 253 rfl rfl, rfl, by decide +kernel, ⟨by decide +kernel, by decide +kernel⟩, a_in4⟩
theorem a_iv_X4_fits : Cond.instanceMethod yX4_fits ∈ a_T0 ∧ Cond.selects yX4_fits.cls yX4_fits yX4_fits ∈ a_T0 := ⟨a_mT 252 (by decide +kernel) (by decide +kernel), a_mT 0 (by decide +kernel) (by decide +kernel)⟩
set_option maxRecDepth 100000 in
theorem a_ok_X4_dotsTold : a_okM mX4_dotsTold := ⟨a_mT 261 rfl rfl, rfl, by decide +kernel, ⟨by decide +kernel, by decide +kernel⟩, a_in4⟩
theorem a_iv_X4_dotsTold : Cond.instanceMethod yX4_dotsTold ∈ a_T0 ∧ Cond.selects yX4_dotsTold.cls yX4_dotsTold yX4_dotsTold ∈ a_T0 := ⟨a_mT 260 (by decide +kernel) (by decide +kernel), a_mT 2 (by decide +kernel) (by decide +kernel)⟩
set_option maxRecDepth 100000 in
theorem a_ok_X4_letterAt : a_okM mX4_letterAt := ⟨a_mT 257 rfl rfl, rfl, by decide +kernel, ⟨by decide +kernel, by decide +kernel⟩, a_in4⟩
theorem a_iv_X4_letterAt : Cond.instanceMethod yX4_letterAt ∈ a_T0 ∧ Cond.selects yX4_letterAt.cls yX4_letterAt yX4_letterAt ∈ a_T0 := ⟨a_mT 256 (by decide +kernel) (by decide +kernel), a_mT 1 (by decide +kernel) (by decide +kernel)⟩
set_option maxRecDepth 100000 in
theorem a_ok_X4_append : a_okM mX4_append := ⟨a_mT 232 rfl rfl, rfl, by decide +kernel, ⟨by decide +kernel, by decide +kernel⟩, a_in4⟩
theorem a_iv_X4_append : Cond.instanceMethod yX4_append ∈ a_T0 ∧ Cond.selects yX4_append.cls yX4_append yX4_append ∈ a_T0 := ⟨a_mT 230 (by decide +kernel) (by decide +kernel), a_mT 231 (by decide +kernel) (by decide +kernel)⟩
set_option maxRecDepth 100000 in
theorem a_ok_X4_clear : a_okM mX4_clear := ⟨a_mT 241 rfl rfl, rfl, by decide +kernel, ⟨by decide +kernel, by decide +kernel⟩, a_in4⟩
theorem a_iv_X4_clear : Cond.instanceMethod yX4_clear ∈ a_T0 ∧ Cond.selects yX4_clear.cls yX4_clear yX4_clear ∈ a_T0 := ⟨a_mT 239 (by decide +kernel) (by decide +kernel), a_mT 240 (by decide +kernel) (by decide +kernel)⟩
set_option maxRecDepth 100000 in
theorem a_ok_X4_firstFault : a_okM mX4_firstFault := ⟨a_mT 249 rfl rfl, rfl, by decide +kernel, ⟨by decide +kernel, by decide +kernel⟩, a_in4⟩
theorem a_iv_X4_firstFault : Cond.instanceMethod yX4_firstFault ∈ a_T0 ∧ Cond.selects yX4_firstFault.cls yX4_firstFault yX4_firstFault ∈ a_T0 := ⟨a_mT 247 (by decide +kernel) (by decide +kernel), a_mT 248 (by decide +kernel) (by decide +kernel)⟩
set_option maxRecDepth 100000 in
theorem a_ok_X3_becomeText : a_okM mX3_becomeText := ⟨a_mT 279 rfl rfl, rfl, by decide +kernel, ⟨by decide +kernel, by decide +kernel⟩, a_in3⟩
theorem a_iv_X3_becomeText : Cond.instanceMethod yX3_becomeText ∈ a_T0 ∧ Cond.selects yX3_becomeText.cls yX3_becomeText yX3_becomeText ∈ a_T0 := ⟨a_mT 277 (by decide +kernel) (by decide +kernel), a_mT 278 (by decide +kernel) (by decide +kernel)⟩
set_option maxRecDepth 100000 in
theorem a_ok_X0_forgetAll : a_okM mX0_forgetAll := ⟨a_mT 311 rfl rfl, rfl, by decide +kernel, ⟨by decide +kernel, by decide +kernel⟩, a_in0⟩
theorem a_iv_X0_forgetAll : Cond.instanceMethod yX0_forgetAll ∈ a_T0 ∧ Cond.selects yX0_forgetAll.cls yX0_forgetAll yX0_forgetAll ∈ a_T0 := ⟨a_mT 309 (by decide +kernel) (by decide +kernel), a_mT 310 (by decide +kernel) (by decide +kernel)⟩
set_option maxRecDepth 100000 in
theorem a_ok_X1_howMany : a_okM mX1_howMany := ⟨a_mT 320 rfl rfl, rfl, by decide +kernel, ⟨by decide +kernel, by decide +kernel⟩, a_in1⟩
theorem a_iv_X1_howMany : Cond.instanceMethod yX1_howMany ∈ a_T0 ∧ Cond.selects yX1_howMany.cls yX1_howMany yX1_howMany ∈ a_T0 := ⟨a_mT 318 (by decide +kernel) (by decide +kernel), a_mT 319 (by decide +kernel) (by decide +kernel)⟩
set_option maxRecDepth 100000 in
theorem a_ok_X3_greysTogether : a_okM mX3_greysTogether := ⟨a_mT 383 rfl rfl, rfl, by decide +kernel, ⟨by decide +kernel, by decide +kernel⟩, a_in3⟩
theorem a_iv_X3_greysTogether : Cond.instanceMethod yX3_greysTogether ∈ a_T0 ∧ Cond.selects yX3_greysTogether.cls yX3_greysTogether yX3_greysTogether ∈ a_T0 := ⟨a_mT 381 (by decide +kernel) (by decide +kernel), a_mT 382 (by decide +kernel) (by decide +kernel)⟩
set_option maxRecDepth 100000 in
theorem a_ok_X5_lieNumber : a_okM mX5_lieNumber := ⟨a_mT 386 rfl rfl, rfl, by decide +kernel, ⟨by decide +kernel, by decide +kernel⟩, a_in5⟩
theorem a_st_X5_lieNumber : Cond.static yX5_lieNumber ∈ a_T0 := a_mT 385 (by decide +kernel) (by decide +kernel)
set_option maxRecDepth 100000 in
theorem a_ok_X0_size : a_okM mX0_size := ⟨a_mT 390 rfl rfl, rfl, by decide +kernel, ⟨by decide +kernel, by decide +kernel⟩, a_in0⟩
theorem a_iv_X0_size : Cond.instanceMethod yX0_size ∈ a_T0 ∧ Cond.selects yX0_size.cls yX0_size yX0_size ∈ a_T0 := ⟨a_mT 388 (by decide +kernel) (by decide +kernel), a_mT 389 (by decide +kernel) (by decide +kernel)⟩
set_option maxRecDepth 100000 in
theorem a_ok_X2_size : a_okM mX2_size := ⟨a_mT 394 rfl rfl, rfl, by decide +kernel, ⟨by decide +kernel, by decide +kernel⟩, a_in2⟩
theorem a_iv_X2_size : Cond.instanceMethod yX2_size ∈ a_T0 ∧ Cond.selects yX2_size.cls yX2_size yX2_size ∈ a_T0 := ⟨a_mT 392 (by decide +kernel) (by decide +kernel), a_mT 393 (by decide +kernel) (by decide +kernel)⟩
set_option maxRecDepth 100000 in
theorem a_ok_X4_size : a_okM mX4_size := ⟨a_mT 398 rfl rfl, rfl, by decide +kernel, ⟨by decide +kernel, by decide +kernel⟩, a_in4⟩
theorem a_iv_X4_size : Cond.instanceMethod yX4_size ∈ a_T0 ∧ Cond.selects yX4_size.cls yX4_size yX4_size ∈ a_T0 := ⟨a_mT 396 (by decide +kernel) (by decide +kernel), a_mT 397 (by decide +kernel) (by decide +kernel)⟩
set_option maxRecDepth 100000 in
theorem a_ok_X5_isSide : a_okM mX5_isSide := ⟨a_mT 405 rfl rfl, rfl, by decide +kernel, ⟨by decide +kernel, by decide +kernel⟩, a_in5⟩
theorem a_st_X5_isSide : Cond.static yX5_isSide ∈ a_T0 := a_mT 404 (by decide +kernel) (by decide +kernel)
set_option maxRecDepth 100000 in
theorem a_ok_X5_isFigure : a_okM mX5_isFigure := ⟨a_mT 299 rfl rfl, rfl, by decide +kernel, ⟨by decide +kernel, by decide +kernel⟩, a_in5⟩
theorem a_st_X5_isFigure : Cond.static yX5_isFigure ∈ a_T0 := a_mT 298 (by decide +kernel) (by decide +kernel)
set_option maxRecDepth 100000 in
theorem a_ok_X1_countOf : a_okM mX1_countOf := ⟨a_mT 422 rfl rfl, rfl, by decide +kernel, ⟨by decide +kernel, by decide +kernel⟩, a_in1⟩
theorem a_iv_X1_countOf : Cond.instanceMethod yX1_countOf ∈ a_T0 ∧ Cond.selects yX1_countOf.cls yX1_countOf yX1_countOf ∈ a_T0 := ⟨a_mT 420 (by decide +kernel) (by decide +kernel), a_mT 421 (by decide +kernel) (by decide +kernel)⟩
set_option maxRecDepth 100000 in
theorem a_ok_X1_sumOf : a_okM mX1_sumOf := ⟨a_mT 426 rfl rfl, rfl, by decide +kernel, ⟨by decide +kernel, by decide +kernel⟩, a_in1⟩
theorem a_iv_X1_sumOf : Cond.instanceMethod yX1_sumOf ∈ a_T0 ∧ Cond.selects yX1_sumOf.cls yX1_sumOf yX1_sumOf ∈ a_T0 := ⟨a_mT 424 (by decide +kernel) (by decide +kernel), a_mT 425 (by decide +kernel) (by decide +kernel)⟩
set_option maxRecDepth 100000 in
theorem a_ok_X1_squaresOf : a_okM mX1_squaresOf := ⟨a_mT 430 rfl rfl, rfl, by decide +kernel, ⟨by decide +kernel, by decide +kernel⟩, a_in1⟩
theorem a_iv_X1_squaresOf : Cond.instanceMethod yX1_squaresOf ∈ a_T0 ∧ Cond.selects yX1_squaresOf.cls yX1_squaresOf yX1_squaresOf ∈ a_T0 := ⟨a_mT 428 (by decide +kernel) (by decide +kernel), a_mT 429 (by decide +kernel) (by decide +kernel)⟩
set_option maxRecDepth 100000 in
theorem a_ok_X5_fraction : a_okM mX5_fraction := ⟨a_mT 437 rfl rfl, rfl, by decide +kernel, ⟨by decide +kernel, by decide +kernel⟩, a_in5⟩
theorem a_st_X5_fraction : Cond.static yX5_fraction ∈ a_T0 := a_mT 436 (by decide +kernel) (by decide +kernel)
set_option maxRecDepth 100000 in
theorem a_ok_X1_unevenness : a_okM mX1_unevenness := ⟨a_mT 447 rfl rfl, rfl, by decide +kernel, ⟨by decide +kernel, by decide +kernel⟩, a_in1⟩
theorem a_iv_X1_unevenness : Cond.instanceMethod yX1_unevenness ∈ a_T0 ∧ Cond.selects yX1_unevenness.cls yX1_unevenness yX1_unevenness ∈ a_T0 := ⟨a_mT 445 (by decide +kernel) (by decide +kernel), a_mT 446 (by decide +kernel) (by decide +kernel)⟩
set_option maxRecDepth 100000 in
theorem a_ok_X3_hangingTogether : a_okM mX3_hangingTogether := ⟨a_mT 467 rfl rfl, rfl, by decide +kernel, ⟨by decide +kernel, by decide +kernel⟩, a_in3⟩
theorem a_iv_X3_hangingTogether : Cond.instanceMethod yX3_hangingTogether ∈ a_T0 ∧ Cond.selects yX3_hangingTogether.cls yX3_hangingTogether yX3_hangingTogether ∈ a_T0 := ⟨a_mT 465 (by decide +kernel) (by decide +kernel), a_mT 466 (by decide +kernel) (by decide +kernel)⟩
set_option maxRecDepth 100000 in
theorem a_ok_X0_add : a_okM mX0_add := ⟨a_mT 480 rfl rfl, rfl, by decide +kernel, ⟨by decide +kernel, by decide +kernel⟩, a_in0⟩
theorem a_iv_X0_add : Cond.instanceMethod yX0_add ∈ a_T0 ∧ Cond.selects yX0_add.cls yX0_add yX0_add ∈ a_T0 := ⟨a_mT 478 (by decide +kernel) (by decide +kernel), a_mT 479 (by decide +kernel) (by decide +kernel)⟩
set_option maxRecDepth 100000 in
theorem a_ok_X5_isLight : a_okM mX5_isLight := ⟨a_mT 495 rfl rfl, rfl, by decide +kernel, ⟨by decide +kernel, by decide +kernel⟩, a_in5⟩
theorem a_st_X5_isLight : Cond.static yX5_isLight ∈ a_T0 := a_mT 494 (by decide +kernel) (by decide +kernel)
set_option maxRecDepth 100000 in
theorem a_ok_X3_staysGrey : a_okM mX3_staysGrey := ⟨a_mT 499 rfl rfl, rfl, by decide +kernel, ⟨by decide +kernel, by decide +kernel⟩, a_in3⟩
theorem a_iv_X3_staysGrey : Cond.instanceMethod yX3_staysGrey ∈ a_T0 ∧ Cond.selects yX3_staysGrey.cls yX3_staysGrey yX3_staysGrey ∈ a_T0 := ⟨a_mT 497 (by decide +kernel) (by decide +kernel), a_mT 498 (by decide +kernel) (by decide +kernel)⟩
set_option maxRecDepth 100000 in
theorem a_ok_X5_isRule : a_okM mX5_isRule := ⟨a_mT 510 rfl rfl, rfl, by decide +kernel, ⟨by decide +kernel, by decide +kernel⟩, a_in5⟩
theorem a_st_X5_isRule : Cond.static yX5_isRule ∈ a_T0 := a_mT 509 (by decide +kernel) (by decide +kernel)
set_option maxRecDepth 100000 in
theorem a_ok_X5_isLie : a_okM mX5_isLie := ⟨a_mT 523 rfl rfl, rfl, by decide +kernel, ⟨by decide +kernel, by decide +kernel⟩, a_in5⟩
theorem a_st_X5_isLie : Cond.static yX5_isLie ∈ a_T0 := a_mT 522 (by decide +kernel) (by decide +kernel)
set_option maxRecDepth 100000 in
theorem a_ok_X0_takeBackLast : a_okM mX0_takeBackLast := ⟨a_mT 532 rfl rfl, rfl, by decide +kernel, ⟨by decide +kernel, by decide +kernel⟩, a_in0⟩
theorem a_iv_X0_takeBackLast : Cond.instanceMethod yX0_takeBackLast ∈ a_T0 ∧ Cond.selects yX0_takeBackLast.cls yX0_takeBackLast yX0_takeBackLast ∈ a_T0 := ⟨a_mT 530 (by decide +kernel) (by decide +kernel), a_mT 531 (by decide +kernel) (by decide +kernel)⟩
set_option maxRecDepth 100000 in
theorem a_ok_X3_pairs : a_okM mX3_pairs := ⟨a_mT 549 rfl rfl, rfl, by decide +kernel, ⟨by decide +kernel, by decide +kernel⟩, a_in3⟩
theorem a_iv_X3_pairs : Cond.instanceMethod yX3_pairs ∈ a_T0 ∧ Cond.selects yX3_pairs.cls yX3_pairs yX3_pairs ∈ a_T0 := ⟨a_mT 547 (by decide +kernel) (by decide +kernel), a_mT 548 (by decide +kernel) (by decide +kernel)⟩
set_option maxRecDepth 100000 in
theorem a_ok_X3_difference : a_okM mX3_difference := ⟨a_mT 553 rfl rfl, rfl, by decide +kernel, ⟨by decide +kernel, by decide +kernel⟩, a_in3⟩
theorem a_iv_X3_difference : Cond.instanceMethod yX3_difference ∈ a_T0 ∧ Cond.selects yX3_difference.cls yX3_difference yX3_difference ∈ a_T0 := ⟨a_mT 551 (by decide +kernel) (by decide +kernel), a_mT 552 (by decide +kernel) (by decide +kernel)⟩
set_option maxRecDepth 100000 in
theorem a_ok_X5_bestLie : a_okM mX5_bestLie := ⟨a_mT 561 rfl rfl, rfl, by decide +kernel, ⟨by decide +kernel, by decide +kernel⟩, a_in5⟩
theorem a_iv_X5_bestLie : Cond.instanceMethod yX5_bestLie ∈ a_T0 ∧ Cond.selects yX5_bestLie.cls yX5_bestLie yX5_bestLie ∈ a_T0 := ⟨a_mT 560 (by decide +kernel) (by decide +kernel), a_mT 7 (by decide +kernel) (by decide +kernel)⟩
set_option maxRecDepth 100000 in
theorem a_ok_X5_bestWindow : a_okM mX5_bestWindow := ⟨a_mT 565 rfl rfl, rfl, by decide +kernel, ⟨by decide +kernel, by decide +kernel⟩, a_in5⟩
theorem a_iv_X5_bestWindow : Cond.instanceMethod yX5_bestWindow ∈ a_T0 ∧ Cond.selects yX5_bestWindow.cls yX5_bestWindow yX5_bestWindow ∈ a_T0 := ⟨a_mT 564 (by decide +kernel) (by decide +kernel), a_mT 8 (by decide +kernel) (by decide +kernel)⟩
set_option maxRecDepth 100000 in
theorem a_ok_X3_copyFrom : a_okM mX3_copyFrom := ⟨a_mT 578 rfl rfl, rfl, by decide +kernel, ⟨by decide +kernel, by decide +kernel⟩, a_in3⟩
theorem a_iv_X3_copyFrom : Cond.instanceMethod yX3_copyFrom ∈ a_T0 ∧ Cond.selects yX3_copyFrom.cls yX3_copyFrom yX3_copyFrom ∈ a_T0 := ⟨a_mT 576 (by decide +kernel) (by decide +kernel), a_mT 577 (by decide +kernel) (by decide +kernel)⟩
set_option maxRecDepth 100000 in
theorem a_ok_X5_canBe : a_okM mX5_canBe := ⟨a_mT 584 rfl rfl, rfl, by decide +kernel, ⟨by decide +kernel, by decide +kernel⟩, a_in5⟩
theorem a_iv_X5_canBe : Cond.instanceMethod yX5_canBe ∈ a_T0 ∧ Cond.selects yX5_canBe.cls yX5_canBe yX5_canBe ∈ a_T0 := ⟨a_mT 583 (by decide +kernel) (by decide +kernel), a_mT 9 (by decide +kernel) (by decide +kernel)⟩
set_option maxRecDepth 100000 in
theorem a_ok_X3_hasRow : a_okM mX3_hasRow := ⟨a_mT 616 rfl rfl, rfl, by decide +kernel, ⟨by decide +kernel, by decide +kernel⟩, a_in3⟩
theorem a_iv_X3_hasRow : Cond.instanceMethod yX3_hasRow ∈ a_T0 ∧ Cond.selects yX3_hasRow.cls yX3_hasRow yX3_hasRow ∈ a_T0 := ⟨a_mT 614 (by decide +kernel) (by decide +kernel), a_mT 615 (by decide +kernel) (by decide +kernel)⟩
set_option maxRecDepth 100000 in
theorem a_ok_X5_inkWhenCome : a_okM mX5_inkWhenCome := ⟨a_mT 620 rfl rfl, rfl, by decide +kernel, ⟨by decide +kernel, by decide +kernel⟩, a_in5⟩
theorem a_iv_X5_inkWhenCome : Cond.instanceMethod yX5_inkWhenCome ∈ a_T0 ∧ Cond.selects yX5_inkWhenCome.cls yX5_inkWhenCome yX5_inkWhenCome ∈ a_T0 := ⟨a_mT 619 (by decide +kernel) (by decide +kernel), a_mT 16 (by decide +kernel) (by decide +kernel)⟩
set_option maxRecDepth 100000 in
theorem a_ok_X5_ordersWith : a_okM mX5_ordersWith := ⟨a_mT 627 rfl rfl, rfl, by decide +kernel, ⟨by decide +kernel, by decide +kernel⟩, a_in5⟩
theorem a_st_X5_ordersWith : Cond.static yX5_ordersWith ∈ a_T0 := a_mT 626 (by decide +kernel) (by decide +kernel)
set_option maxRecDepth 100000 in
theorem a_ok_X5_factorial : a_okM mX5_factorial := ⟨a_mT 630 rfl rfl, rfl, by decide +kernel, ⟨by decide +kernel, by decide +kernel⟩, a_in5⟩
theorem a_st_X5_factorial : Cond.static yX5_factorial ∈ a_T0 := a_mT 629 (by decide +kernel) (by decide +kernel)
set_option maxRecDepth 100000 in
theorem a_ok_X2_add : a_okM mX2_add := ⟨a_mT 644 rfl rfl, rfl, by decide +kernel, ⟨by decide +kernel, by decide +kernel⟩, a_in2⟩
theorem a_iv_X2_add : Cond.instanceMethod yX2_add ∈ a_T0 ∧ Cond.selects yX2_add.cls yX2_add yX2_add ∈ a_T0 := ⟨a_mT 642 (by decide +kernel) (by decide +kernel), a_mT 643 (by decide +kernel) (by decide +kernel)⟩
set_option maxRecDepth 100000 in
theorem a_ok_X2_clear : a_okM mX2_clear := ⟨a_mT 653 rfl rfl, rfl, by decide +kernel, ⟨by decide +kernel, by decide +kernel⟩, a_in2⟩
theorem a_iv_X2_clear : Cond.instanceMethod yX2_clear ∈ a_T0 ∧ Cond.selects yX2_clear.cls yX2_clear yX2_clear ∈ a_T0 := ⟨a_mT 651 (by decide +kernel) (by decide +kernel), a_mT 652 (by decide +kernel) (by decide +kernel)⟩
set_option maxRecDepth 100000 in
theorem a_ok_X2_agreesWith : a_okM mX2_agreesWith := ⟨a_mT 661 rfl rfl, rfl, by decide +kernel, ⟨by decide +kernel, by decide +kernel⟩, a_in2⟩
theorem a_iv_X2_agreesWith : Cond.instanceMethod yX2_agreesWith ∈ a_T0 ∧ Cond.selects yX2_agreesWith.cls yX2_agreesWith yX2_agreesWith ∈ a_T0 := ⟨a_mT 659 (by decide +kernel) (by decide +kernel), a_mT 660 (by decide +kernel) (by decide +kernel)⟩
set_option maxRecDepth 100000 in
theorem a_ok_X5_windowNumber : a_okM mX5_windowNumber := ⟨a_mT 568 rfl rfl, rfl, by decide +kernel, ⟨by decide +kernel, by decide +kernel⟩, a_in5⟩
theorem a_st_X5_windowNumber : Cond.static yX5_windowNumber ∈ a_T0 := a_mT 567 (by decide +kernel) (by decide +kernel)
set_option maxRecDepth 100000 in
theorem a_ok_X5_inkWhenBleached : a_okM mX5_inkWhenBleached := ⟨a_mT 669 rfl rfl, rfl, by decide +kernel, ⟨by decide +kernel, by decide +kernel⟩, a_in5⟩
theorem a_iv_X5_inkWhenBleached : Cond.instanceMethod yX5_inkWhenBleached ∈ a_T0 ∧ Cond.selects yX5_inkWhenBleached.cls yX5_inkWhenBleached yX5_inkWhenBleached ∈ a_T0 := ⟨a_mT 668 (by decide +kernel) (by decide +kernel), a_mT 17 (by decide +kernel) (by decide +kernel)⟩
set_option maxRecDepth 100000 in
theorem a_ok_X5_power : a_okM mX5_power := ⟨a_mT 672 rfl rfl, rfl, by decide +kernel, ⟨by decide +kernel, by decide +kernel⟩, a_in5⟩
theorem a_st_X5_power : Cond.static yX5_power ∈ a_T0 := a_mT 671 (by decide +kernel) (by decide +kernel)
set_option maxRecDepth 100000 in
theorem a_ok_X5_remainder : a_okM mX5_remainder := ⟨a_mT 685 rfl rfl, rfl, by decide +kernel, ⟨by decide +kernel, by decide +kernel⟩, a_in5⟩
theorem a_st_X5_remainder : Cond.static yX5_remainder ∈ a_T0 := a_mT 684 (by decide +kernel) (by decide +kernel)
set_option maxRecDepth 100000 in
theorem a_ok_X5_isSlot : a_okM mX5_isSlot := ⟨a_mT 692 rfl rfl, rfl, by decide +kernel, ⟨by decide +kernel, by decide +kernel⟩, a_in5⟩
theorem a_st_X5_isSlot : Cond.static yX5_isSlot ∈ a_T0 := a_mT 691 (by decide +kernel) (by decide +kernel)
set_option maxRecDepth 100000 in
theorem a_ok_X5_slotAt : a_okM mX5_slotAt := ⟨a_mT 696 rfl rfl, rfl, by decide +kernel, ⟨by decide +kernel, by decide +kernel⟩, a_in5⟩
theorem a_iv_X5_slotAt : Cond.instanceMethod yX5_slotAt ∈ a_T0 ∧ Cond.selects yX5_slotAt.cls yX5_slotAt yX5_slotAt ∈ a_T0 := ⟨a_mT 695 (by decide +kernel) (by decide +kernel), a_mT 18 (by decide +kernel) (by decide +kernel)⟩
set_option maxRecDepth 100000 in
theorem a_ok_X3_whiten : a_okM mX3_whiten := ⟨a_mT 624 rfl rfl, rfl, by decide +kernel, ⟨by decide +kernel, by decide +kernel⟩, a_in3⟩
theorem a_iv_X3_whiten : Cond.instanceMethod yX3_whiten ∈ a_T0 ∧ Cond.selects yX3_whiten.cls yX3_whiten yX3_whiten ∈ a_T0 := ⟨a_mT 622 (by decide +kernel) (by decide +kernel), a_mT 623 (by decide +kernel) (by decide +kernel)⟩
set_option maxRecDepth 100000 in
theorem a_ok_X5_canPaint : a_okM mX5_canPaint := ⟨a_mT 588 rfl rfl, rfl, by decide +kernel, ⟨by decide +kernel, by decide +kernel⟩, a_in5⟩
theorem a_iv_X5_canPaint : Cond.instanceMethod yX5_canPaint ∈ a_T0 ∧ Cond.selects yX5_canPaint.cls yX5_canPaint yX5_canPaint ∈ a_T0 := ⟨a_mT 587 (by decide +kernel) (by decide +kernel), a_mT 10 (by decide +kernel) (by decide +kernel)⟩
set_option maxRecDepth 100000 in
theorem a_ok_X5_canLighten : a_okM mX5_canLighten := ⟨a_mT 592 rfl rfl, rfl, by decide +kernel, ⟨by decide +kernel, by decide +kernel⟩, a_in5⟩
theorem a_iv_X5_canLighten : Cond.instanceMethod yX5_canLighten ∈ a_T0 ∧ Cond.selects yX5_canLighten.cls yX5_canLighten yX5_canLighten ∈ a_T0 := ⟨a_mT 591 (by decide +kernel) (by decide +kernel), a_mT 11 (by decide +kernel) (by decide +kernel)⟩
set_option maxRecDepth 100000 in
theorem a_ok_X5_canRule : a_okM mX5_canRule := ⟨a_mT 596 rfl rfl, rfl, by decide +kernel, ⟨by decide +kernel, by decide +kernel⟩, a_in5⟩
theorem a_iv_X5_canRule : Cond.instanceMethod yX5_canRule ∈ a_T0 ∧ Cond.selects yX5_canRule.cls yX5_canRule yX5_canRule ∈ a_T0 := ⟨a_mT 595 (by decide +kernel) (by decide +kernel), a_mT 12 (by decide +kernel) (by decide +kernel)⟩
set_option maxRecDepth 100000 in
theorem a_ok_X5_canTable : a_okM mX5_canTable := ⟨a_mT 600 rfl rfl, rfl, by decide +kernel, ⟨by decide +kernel, by decide +kernel⟩, a_in5⟩
theorem a_iv_X5_canTable : Cond.instanceMethod yX5_canTable ∈ a_T0 ∧ Cond.selects yX5_canTable.cls yX5_canTable yX5_canTable ∈ a_T0 := ⟨a_mT 599 (by decide +kernel) (by decide +kernel), a_mT 13 (by decide +kernel) (by decide +kernel)⟩
set_option maxRecDepth 100000 in
theorem a_ok_X5_canLay : a_okM mX5_canLay := ⟨a_mT 604 rfl rfl, rfl, by decide +kernel, ⟨by decide +kernel, by decide +kernel⟩, a_in5⟩
theorem a_iv_X5_canLay : Cond.instanceMethod yX5_canLay ∈ a_T0 ∧ Cond.selects yX5_canLay.cls yX5_canLay yX5_canLay ∈ a_T0 := ⟨a_mT 603 (by decide +kernel) (by decide +kernel), a_mT 14 (by decide +kernel) (by decide +kernel)⟩
set_option maxRecDepth 100000 in
theorem a_ok_X5_isSoMarked : a_okM mX5_isSoMarked := ⟨a_mT 608 rfl rfl, rfl, by decide +kernel, ⟨by decide +kernel, by decide +kernel⟩, a_in5⟩
theorem a_iv_X5_isSoMarked : Cond.instanceMethod yX5_isSoMarked ∈ a_T0 ∧ Cond.selects yX5_isSoMarked.cls yX5_isSoMarked yX5_isSoMarked ∈ a_T0 := ⟨a_mT 607 (by decide +kernel) (by decide +kernel), a_mT 15 (by decide +kernel) (by decide +kernel)⟩
set_option maxRecDepth 100000 in
theorem a_ok_X5_commonDivisor : a_okM mX5_commonDivisor := ⟨a_mT 443 rfl rfl, rfl, by decide +kernel, ⟨by decide +kernel, by decide +kernel⟩, a_in5⟩
theorem a_st_X5_commonDivisor : Cond.static yX5_commonDivisor ∈ a_T0 := a_mT 442 (by decide +kernel) (by decide +kernel)
set_option maxRecDepth 100000 in
theorem a_ok_X6_openRule : a_okM mX6_openRule := ⟨a_mT 709 rfl rfl, rfl, by decide +kernel, ⟨by decide +kernel, by decide +kernel⟩, a_in6⟩
theorem a_st_X6_openRule : Cond.static yX6_openRule ∈ a_T0 := a_mT 708 (by decide +kernel) (by decide +kernel)
set_option maxRecDepth 100000 in
theorem a_ok_X6_divisor : a_okM mX6_divisor := ⟨a_mT 865 rfl rfl, rfl, by decide +kernel, ⟨by decide +kernel, by decide +kernel⟩, a_in6⟩
theorem a_st_X6_divisor : Cond.static yX6_divisor ∈ a_T0 := a_mT 864 (by decide +kernel) (by decide +kernel)
set_option maxRecDepth 100000 in
theorem a_ok_X6_dotsOf : a_okM mX6_dotsOf := ⟨a_mT 806 rfl rfl, rfl, by decide +kernel, ⟨by decide +kernel, by decide +kernel⟩, a_in6⟩
theorem a_st_X6_dotsOf : Cond.static yX6_dotsOf ∈ a_T0 := a_mT 805 (by decide +kernel) (by decide +kernel)
set_option maxRecDepth 100000 in
theorem a_ok_X6_in : a_okM mX6_in := ⟨a_mT 785 rfl rfl, rfl, by decide +kernel, ⟨by decide +kernel, by decide +kernel⟩, a_in6⟩
theorem a_st_X6_in : Cond.static yX6_in ∈ a_T0 := a_mT 784 (by decide +kernel) (by decide +kernel)
set_option maxRecDepth 100000 in
theorem a_ok_X6_figureAt : a_okM mX6_figureAt := ⟨a_mT 801 rfl rfl, rfl, by decide +kernel, ⟨by decide +kernel, by decide +kernel⟩, a_in6⟩
theorem a_iv_X6_figureAt : Cond.instanceMethod yX6_figureAt ∈ a_T0 ∧ Cond.selects yX6_figureAt.cls yX6_figureAt yX6_figureAt ∈ a_T0 := ⟨a_mT 800 (by decide +kernel) (by decide +kernel), a_mT 20 (by decide +kernel) (by decide +kernel)⟩
set_option maxRecDepth 100000 in
theorem a_ok_X6_readLeaf : a_okM mX6_readLeaf := ⟨a_mT 797 rfl rfl, rfl, by decide +kernel, ⟨by decide +kernel, by decide +kernel⟩, a_in6⟩
theorem a_iv_X6_readLeaf : Cond.instanceMethod yX6_readLeaf ∈ a_T0 ∧ Cond.selects yX6_readLeaf.cls yX6_readLeaf yX6_readLeaf ∈ a_T0 := ⟨a_mT 796 (by decide +kernel) (by decide +kernel), a_mT 19 (by decide +kernel) (by decide +kernel)⟩
set_option maxRecDepth 100000 in
theorem a_ok_X6_far : a_okM mX6_far := ⟨a_mT 829 rfl rfl, rfl, by decide +kernel, ⟨by decide +kernel, by decide +kernel⟩, a_in6⟩
theorem a_st_X6_far : Cond.static yX6_far ∈ a_T0 := a_mT 828 (by decide +kernel) (by decide +kernel)
set_option maxRecDepth 100000 in
theorem a_ok_X6_layWindow : a_okM mX6_layWindow := ⟨a_mT 826 rfl rfl, rfl, by decide +kernel, ⟨by decide +kernel, by decide +kernel⟩, a_in6⟩
theorem a_iv_X6_layWindow : Cond.instanceMethod yX6_layWindow ∈ a_T0 ∧ Cond.selects yX6_layWindow.cls yX6_layWindow yX6_layWindow ∈ a_T0 := ⟨a_mT 825 (by decide +kernel) (by decide +kernel), a_mT 23 (by decide +kernel) (by decide +kernel)⟩
set_option maxRecDepth 100000 in
theorem a_ok_X6_isDark : a_okM mX6_isDark := ⟨a_mT 833 rfl rfl, rfl, by decide +kernel, ⟨by decide +kernel, by decide +kernel⟩, a_in6⟩
theorem a_iv_X6_isDark : Cond.instanceMethod yX6_isDark ∈ a_T0 ∧ Cond.selects yX6_isDark.cls yX6_isDark yX6_isDark ∈ a_T0 := ⟨a_mT 832 (by decide +kernel) (by decide +kernel), a_mT 24 (by decide +kernel) (by decide +kernel)⟩
set_option maxRecDepth 100000 in
theorem a_ok_X6_underOf : a_okM mX6_underOf := ⟨a_mT 836 rfl rfl, rfl, by decide +kernel, ⟨by decide +kernel, by decide +kernel⟩, a_in6⟩
theorem a_st_X6_underOf : Cond.static yX6_underOf ∈ a_T0 := a_mT 835 (by decide +kernel) (by decide +kernel)
set_option maxRecDepth 100000 in
theorem a_ok_X6_markOf : a_okM mX6_markOf := ⟨a_mT 822 rfl rfl, rfl, by decide +kernel, ⟨by decide +kernel, by decide +kernel⟩, a_in6⟩
theorem a_iv_X6_markOf : Cond.instanceMethod yX6_markOf ∈ a_T0 ∧ Cond.selects yX6_markOf.cls yX6_markOf yX6_markOf ∈ a_T0 := ⟨a_mT 821 (by decide +kernel) (by decide +kernel), a_mT 22 (by decide +kernel) (by decide +kernel)⟩
set_option maxRecDepth 100000 in
theorem a_ok_X6_marks : a_okM mX6_marks := ⟨a_mT 818 rfl rfl, rfl, by decide +kernel, ⟨by decide +kernel, by decide +kernel⟩, a_in6⟩
theorem a_iv_X6_marks : Cond.instanceMethod yX6_marks ∈ a_T0 ∧ Cond.selects yX6_marks.cls yX6_marks yX6_marks ∈ a_T0 := ⟨a_mT 817 (by decide +kernel) (by decide +kernel), a_mT 21 (by decide +kernel) (by decide +kernel)⟩
set_option maxRecDepth 100000 in
theorem a_ok_X6_greys : a_okM mX6_greys := ⟨a_mT 839 rfl rfl, rfl, by decide +kernel, ⟨by decide +kernel, by decide +kernel⟩, a_in6⟩
theorem a_st_X6_greys : Cond.static yX6_greys ∈ a_T0 := a_mT 838 (by decide +kernel) (by decide +kernel)
set_option maxRecDepth 100000 in
theorem a_ok_X6_noDot : a_okM mX6_noDot := ⟨a_mT 847 rfl rfl, rfl, by decide +kernel, ⟨by decide +kernel, by decide +kernel⟩, a_in6⟩
theorem a_iv_X6_noDot : Cond.instanceMethod yX6_noDot ∈ a_T0 ∧ Cond.selects yX6_noDot.cls yX6_noDot yX6_noDot ∈ a_T0 := ⟨a_mT 846 (by decide +kernel) (by decide +kernel), a_mT 25 (by decide +kernel) (by decide +kernel)⟩
set_option maxRecDepth 100000 in
theorem a_ok_X6_fraction : a_okM mX6_fraction := ⟨a_mT 862 rfl rfl, rfl, by decide +kernel, ⟨by decide +kernel, by decide +kernel⟩, a_in6⟩
theorem a_st_X6_fraction : Cond.static yX6_fraction ∈ a_T0 := a_mT 861 (by decide +kernel) (by decide +kernel)
set_option maxRecDepth 100000 in
theorem a_ok_X6_has : a_okM mX6_has := ⟨a_mT 885 rfl rfl, rfl, by decide +kernel, ⟨by decide +kernel, by decide +kernel⟩, a_in6⟩
theorem a_st_X6_has : Cond.static yX6_has ∈ a_T0 := a_mT 884 (by decide +kernel) (by decide +kernel)
set_option maxRecDepth 100000 in
theorem a_ok_X6_inkOf : a_okM mX6_inkOf := ⟨a_mT 882 rfl rfl, rfl, by decide +kernel, ⟨by decide +kernel, by decide +kernel⟩, a_in6⟩
theorem a_iv_X6_inkOf : Cond.instanceMethod yX6_inkOf ∈ a_T0 ∧ Cond.selects yX6_inkOf.cls yX6_inkOf yX6_inkOf ∈ a_T0 := ⟨a_mT 881 (by decide +kernel) (by decide +kernel), a_mT 26 (by decide +kernel) (by decide +kernel)⟩
set_option maxRecDepth 100000 in
theorem a_ok_X6_hanging : a_okM mX6_hanging := ⟨a_mT 888 rfl rfl, rfl, by decide +kernel, ⟨by decide +kernel, by decide +kernel⟩, a_in6⟩
theorem a_st_X6_hanging : Cond.static yX6_hanging ∈ a_T0 := a_mT 887 (by decide +kernel) (by decide +kernel)
set_option maxRecDepth 100000 in
theorem a_ok_X6_many : a_okM mX6_many := ⟨a_mT 891 rfl rfl, rfl, by decide +kernel, ⟨by decide +kernel, by decide +kernel⟩, a_in6⟩
theorem a_st_X6_many : Cond.static yX6_many ∈ a_T0 := a_mT 890 (by decide +kernel) (by decide +kernel)
set_option maxRecDepth 100000 in
theorem a_ok_X6_note : a_okM mX6_note := ⟨a_mT 899 rfl rfl, rfl, by decide +kernel, ⟨by decide +kernel, by decide +kernel⟩, a_in6⟩
theorem a_iv_X6_note : Cond.instanceMethod yX6_note ∈ a_T0 ∧ Cond.selects yX6_note.cls yX6_note yX6_note ∈ a_T0 := ⟨a_mT 898 (by decide +kernel) (by decide +kernel), a_mT 27 (by decide +kernel) (by decide +kernel)⟩
set_option maxRecDepth 100000 in
theorem a_ok_X6_canLight : a_okM mX6_canLight := ⟨a_mT 907 rfl rfl, rfl, by decide +kernel, ⟨by decide +kernel, by decide +kernel⟩, a_in6⟩
theorem a_st_X6_canLight : Cond.static yX6_canLight ∈ a_T0 := a_mT 906 (by decide +kernel) (by decide +kernel)
set_option maxRecDepth 100000 in
theorem a_ok_X6_goLight : a_okM mX6_goLight := ⟨a_mT 910 rfl rfl, rfl, by decide +kernel, ⟨by decide +kernel, by decide +kernel⟩, a_in6⟩
theorem a_st_X6_goLight : Cond.static yX6_goLight ∈ a_T0 := a_mT 909 (by decide +kernel) (by decide +kernel)
set_option maxRecDepth 100000 in
theorem a_ok_X6_isRule : a_okM mX6_isRule := ⟨a_mT 917 rfl rfl, rfl, by decide +kernel, ⟨by decide +kernel, by decide +kernel⟩, a_in6⟩
theorem a_st_X6_isRule : Cond.static yX6_isRule ∈ a_T0 := a_mT 916 (by decide +kernel) (by decide +kernel)
set_option maxRecDepth 100000 in
theorem a_ok_X6_goRule : a_okM mX6_goRule := ⟨a_mT 921 rfl rfl, rfl, by decide +kernel, ⟨by decide +kernel, by decide +kernel⟩, a_in6⟩
theorem a_st_X6_goRule : Cond.static yX6_goRule ∈ a_T0 := a_mT 920 (by decide +kernel) (by decide +kernel)
set_option maxRecDepth 100000 in
theorem a_ok_X6_isLie : a_okM mX6_isLie := ⟨a_mT 932 rfl rfl, rfl, by decide +kernel, ⟨by decide +kernel, by decide +kernel⟩, a_in6⟩
theorem a_st_X6_isLie : Cond.static yX6_isLie ∈ a_T0 := a_mT 931 (by decide +kernel) (by decide +kernel)
set_option maxRecDepth 100000 in
theorem a_ok_X6_layFit : a_okM mX6_layFit := ⟨a_mT 945 rfl rfl, rfl, by decide +kernel, ⟨by decide +kernel, by decide +kernel⟩, a_in6⟩
theorem a_iv_X6_layFit : Cond.instanceMethod yX6_layFit ∈ a_T0 ∧ Cond.selects yX6_layFit.cls yX6_layFit yX6_layFit ∈ a_T0 := ⟨a_mT 944 (by decide +kernel) (by decide +kernel), a_mT 28 (by decide +kernel) (by decide +kernel)⟩
set_option maxRecDepth 100000 in
theorem a_ok_X6_begin : a_okM mX6_begin := ⟨a_mT 965 rfl rfl, rfl, by decide +kernel, ⟨by decide +kernel, by decide +kernel⟩, a_in6⟩
theorem a_iv_X6_begin : Cond.instanceMethod yX6_begin ∈ a_T0 ∧ Cond.selects yX6_begin.cls yX6_begin yX6_begin ∈ a_T0 := ⟨a_mT 964 (by decide +kernel) (by decide +kernel), a_mT 32 (by decide +kernel) (by decide +kernel)⟩
set_option maxRecDepth 100000 in
theorem a_ok_X6_inkBy : a_okM mX6_inkBy := ⟨a_mT 961 rfl rfl, rfl, by decide +kernel, ⟨by decide +kernel, by decide +kernel⟩, a_in6⟩
theorem a_iv_X6_inkBy : Cond.instanceMethod yX6_inkBy ∈ a_T0 ∧ Cond.selects yX6_inkBy.cls yX6_inkBy yX6_inkBy ∈ a_T0 := ⟨a_mT 960 (by decide +kernel) (by decide +kernel), a_mT 31 (by decide +kernel) (by decide +kernel)⟩
set_option maxRecDepth 100000 in
theorem a_ok_X6_bestLie : a_okM mX6_bestLie := ⟨a_mT 953 rfl rfl, rfl, by decide +kernel, ⟨by decide +kernel, by decide +kernel⟩, a_in6⟩
theorem a_iv_X6_bestLie : Cond.instanceMethod yX6_bestLie ∈ a_T0 ∧ Cond.selects yX6_bestLie.cls yX6_bestLie yX6_bestLie ∈ a_T0 := ⟨a_mT 952 (by decide +kernel) (by decide +kernel), a_mT 29 (by decide +kernel) (by decide +kernel)⟩
set_option maxRecDepth 100000 in
theorem a_ok_X6_bestRule : a_okM mX6_bestRule := ⟨a_mT 957 rfl rfl, rfl, by decide +kernel, ⟨by decide +kernel, by decide +kernel⟩, a_in6⟩
theorem a_iv_X6_bestRule : Cond.instanceMethod yX6_bestRule ∈ a_T0 ∧ Cond.selects yX6_bestRule.cls yX6_bestRule yX6_bestRule ∈ a_T0 := ⟨a_mT 956 (by decide +kernel) (by decide +kernel), a_mT 30 (by decide +kernel) (by decide +kernel)⟩
set_option maxRecDepth 100000 in
theorem a_ok_X6_puts : a_okM mX6_puts := ⟨a_mT 982 rfl rfl, rfl, by decide +kernel, ⟨by decide +kernel, by decide +kernel⟩, a_in6⟩
theorem a_iv_X6_puts : Cond.instanceMethod yX6_puts ∈ a_T0 ∧ Cond.selects yX6_puts.cls yX6_puts yX6_puts ∈ a_T0 := ⟨a_mT 981 (by decide +kernel) (by decide +kernel), a_mT 34 (by decide +kernel) (by decide +kernel)⟩
set_option maxRecDepth 100000 in
theorem a_ok_X6_lights : a_okM mX6_lights := ⟨a_mT 986 rfl rfl, rfl, by decide +kernel, ⟨by decide +kernel, by decide +kernel⟩, a_in6⟩
theorem a_iv_X6_lights : Cond.instanceMethod yX6_lights ∈ a_T0 ∧ Cond.selects yX6_lights.cls yX6_lights yX6_lights ∈ a_T0 := ⟨a_mT 985 (by decide +kernel) (by decide +kernel), a_mT 35 (by decide +kernel) (by decide +kernel)⟩
set_option maxRecDepth 100000 in
theorem a_ok_X6_rules : a_okM mX6_rules := ⟨a_mT 990 rfl rfl, rfl, by decide +kernel, ⟨by decide +kernel, by decide +kernel⟩, a_in6⟩
theorem a_iv_X6_rules : Cond.instanceMethod yX6_rules ∈ a_T0 ∧ Cond.selects yX6_rules.cls yX6_rules yX6_rules ∈ a_T0 := ⟨a_mT 989 (by decide +kernel) (by decide +kernel), a_mT 36 (by decide +kernel) (by decide +kernel)⟩
set_option maxRecDepth 100000 in
theorem a_ok_X6_lies : a_okM mX6_lies := ⟨a_mT 994 rfl rfl, rfl, by decide +kernel, ⟨by decide +kernel, by decide +kernel⟩, a_in6⟩
theorem a_iv_X6_lies : Cond.instanceMethod yX6_lies ∈ a_T0 ∧ Cond.selects yX6_lies.cls yX6_lies yX6_lies ∈ a_T0 := ⟨a_mT 993 (by decide +kernel) (by decide +kernel), a_mT 37 (by decide +kernel) (by decide +kernel)⟩
set_option maxRecDepth 100000 in
theorem a_ok_X6_longPower : a_okM mX6_longPower := ⟨a_mT 974 rfl rfl, rfl, by decide +kernel, ⟨by decide +kernel, by decide +kernel⟩, a_in6⟩
theorem a_st_X6_longPower : Cond.static yX6_longPower ∈ a_T0 := a_mT 973 (by decide +kernel) (by decide +kernel)
set_option maxRecDepth 100000 in
theorem a_ok_X6_does : a_okM mX6_does := ⟨a_mT 978 rfl rfl, rfl, by decide +kernel, ⟨by decide +kernel, by decide +kernel⟩, a_in6⟩
theorem a_iv_X6_does : Cond.instanceMethod yX6_does ∈ a_T0 ∧ Cond.selects yX6_does.cls yX6_does yX6_does ∈ a_T0 := ⟨a_mT 977 (by decide +kernel) (by decide +kernel), a_mT 33 (by decide +kernel) (by decide +kernel)⟩
set_option maxRecDepth 100000 in
theorem a_ok_X6_inkOfRows : a_okM mX6_inkOfRows := ⟨a_mT 1002 rfl rfl, rfl, by decide +kernel, ⟨by decide +kernel, by decide +kernel⟩, a_in6⟩
theorem a_iv_X6_inkOfRows : Cond.instanceMethod yX6_inkOfRows ∈ a_T0 ∧ Cond.selects yX6_inkOfRows.cls yX6_inkOfRows yX6_inkOfRows ∈ a_T0 := ⟨a_mT 1001 (by decide +kernel) (by decide +kernel), a_mT 38 (by decide +kernel) (by decide +kernel)⟩
set_option maxRecDepth 100000 in
theorem a_ok_X6_orders : a_okM mX6_orders := ⟨a_mT 1005 rfl rfl, rfl, by decide +kernel, ⟨by decide +kernel, by decide +kernel⟩, a_in6⟩
theorem a_st_X6_orders : Cond.static yX6_orders ∈ a_T0 := a_mT 1004 (by decide +kernel) (by decide +kernel)
set_option maxRecDepth 100000 in
theorem a_ok_X6_power : a_okM mX6_power := ⟨a_mT 1025 rfl rfl, rfl, by decide +kernel, ⟨by decide +kernel, by decide +kernel⟩, a_in6⟩
theorem a_st_X6_power : Cond.static yX6_power ∈ a_T0 := a_mT 1024 (by decide +kernel) (by decide +kernel)
set_option maxRecDepth 100000 in
theorem a_ok_X5_write : a_okM mX5_write := ⟨a_mT 224 rfl rfl, rfl, by decide +kernel, ⟨by decide +kernel, by decide +kernel⟩, a_in5⟩
theorem a_iv_X5_write : Cond.instanceMethod yX5_write ∈ a_T0 ∧ Cond.selects yX5_write.cls yX5_write yX5_write ∈ a_T0 := ⟨a_mT 222 (by decide +kernel) (by decide +kernel), a_mT 223 (by decide +kernel) (by decide +kernel)⟩
set_option maxRecDepth 100000 in
theorem a_ok_X6_write : a_okM mX6_write := ⟨a_mT 781 rfl rfl, rfl, by decide +kernel, ⟨by decide +kernel, by decide +kernel⟩, a_in6⟩
theorem a_iv_X6_write : Cond.instanceMethod yX6_write ∈ a_T0 ∧ Cond.selects yX6_write.cls yX6_write yX6_write ∈ a_T0 := ⟨a_mT 779 (by decide +kernel) (by decide +kernel), a_mT 780 (by decide +kernel) (by decide +kernel)⟩
set_option maxRecDepth 100000 in
theorem a_ok_X5_wipe : a_okM mX5_wipe := ⟨a_mT 237 rfl rfl, rfl, by decide +kernel, ⟨by decide +kernel, by decide +kernel⟩, a_in5⟩
theorem a_iv_X5_wipe : Cond.instanceMethod yX5_wipe ∈ a_T0 ∧ Cond.selects yX5_wipe.cls yX5_wipe yX5_wipe ∈ a_T0 := ⟨a_mT 235 (by decide +kernel) (by decide +kernel), a_mT 236 (by decide +kernel) (by decide +kernel)⟩
set_option maxRecDepth 100000 in
theorem a_ok_X6_wipe : a_okM mX6_wipe := ⟨a_mT 789 rfl rfl, rfl, by decide +kernel, ⟨by decide +kernel, by decide +kernel⟩, a_in6⟩
theorem a_iv_X6_wipe : Cond.instanceMethod yX6_wipe ∈ a_T0 ∧ Cond.selects yX6_wipe.cls yX6_wipe yX6_wipe ∈ a_T0 := ⟨a_mT 787 (by decide +kernel) (by decide +kernel), a_mT 788 (by decide +kernel) (by decide +kernel)⟩
set_option maxRecDepth 100000 in
theorem a_ok_X5_fault : a_okM mX5_fault := ⟨a_mT 245 rfl rfl, rfl, by decide +kernel, ⟨by decide +kernel, by decide +kernel⟩, a_in5⟩
theorem a_iv_X5_fault : Cond.instanceMethod yX5_fault ∈ a_T0 ∧ Cond.selects yX5_fault.cls yX5_fault yX5_fault ∈ a_T0 := ⟨a_mT 243 (by decide +kernel) (by decide +kernel), a_mT 244 (by decide +kernel) (by decide +kernel)⟩
set_option maxRecDepth 100000 in
theorem a_ok_X6_fault : a_okM mX6_fault := ⟨a_mT 793 rfl rfl, rfl, by decide +kernel, ⟨by decide +kernel, by decide +kernel⟩, a_in6⟩
theorem a_iv_X6_fault : Cond.instanceMethod yX6_fault ∈ a_T0 ∧ Cond.selects yX6_fault.cls yX6_fault yX6_fault ∈ a_T0 := ⟨a_mT 791 (by decide +kernel) (by decide +kernel), a_mT 792 (by decide +kernel) (by decide +kernel)⟩
set_option maxRecDepth 100000 in
theorem a_ok_X5_leaf : a_okM mX5_leaf := ⟨a_mT 275 rfl rfl, rfl, by decide +kernel, ⟨by decide +kernel, by decide +kernel⟩, a_in5⟩
theorem a_iv_X5_leaf : Cond.instanceMethod yX5_leaf ∈ a_T0 ∧ Cond.selects yX5_leaf.cls yX5_leaf yX5_leaf ∈ a_T0 := ⟨a_mT 273 (by decide +kernel) (by decide +kernel), a_mT 274 (by decide +kernel) (by decide +kernel)⟩
set_option maxRecDepth 100000 in
theorem a_ok_X6_leaf : a_okM mX6_leaf := ⟨a_mT 810 rfl rfl, rfl, by decide +kernel, ⟨by decide +kernel, by decide +kernel⟩, a_in6⟩
theorem a_iv_X6_leaf : Cond.instanceMethod yX6_leaf ∈ a_T0 ∧ Cond.selects yX6_leaf.cls yX6_leaf yX6_leaf ∈ a_T0 := ⟨a_mT 808 (by decide +kernel) (by decide +kernel), a_mT 809 (by decide +kernel) (by decide +kernel)⟩
set_option maxRecDepth 100000 in
theorem a_ok_X5_about : a_okM mX5_about := ⟨a_mT 316 rfl rfl, rfl, by decide +kernel, ⟨by decide +kernel, by decide +kernel⟩, a_in5⟩
theorem a_iv_X5_about : Cond.instanceMethod yX5_about ∈ a_T0 ∧ Cond.selects yX5_about.cls yX5_about yX5_about ∈ a_T0 := ⟨a_mT 314 (by decide +kernel) (by decide +kernel), a_mT 315 (by decide +kernel) (by decide +kernel)⟩
set_option maxRecDepth 100000 in
theorem a_ok_X6_about : a_okM mX6_about := ⟨a_mT 814 rfl rfl, rfl, by decide +kernel, ⟨by decide +kernel, by decide +kernel⟩, a_in6⟩
theorem a_iv_X6_about : Cond.instanceMethod yX6_about ∈ a_T0 ∧ Cond.selects yX6_about.cls yX6_about yX6_about ∈ a_T0 := ⟨a_mT 812 (by decide +kernel) (by decide +kernel), a_mT 813 (by decide +kernel) (by decide +kernel)⟩
set_option maxRecDepth 100000 in
theorem a_ok_X5_grey : a_okM mX5_grey := ⟨a_mT 402 rfl rfl, rfl, by decide +kernel, ⟨by decide +kernel, by decide +kernel⟩, a_in5⟩
theorem a_iv_X5_grey : Cond.instanceMethod yX5_grey ∈ a_T0 ∧ Cond.selects yX5_grey.cls yX5_grey yX5_grey ∈ a_T0 := ⟨a_mT 400 (by decide +kernel) (by decide +kernel), a_mT 401 (by decide +kernel) (by decide +kernel)⟩
set_option maxRecDepth 100000 in
theorem a_ok_X6_grey : a_okM mX6_grey := ⟨a_mT 843 rfl rfl, rfl, by decide +kernel, ⟨by decide +kernel, by decide +kernel⟩, a_in6⟩
theorem a_iv_X6_grey : Cond.instanceMethod yX6_grey ∈ a_T0 ∧ Cond.selects yX6_grey.cls yX6_grey yX6_grey ∈ a_T0 := ⟨a_mT 841 (by decide +kernel) (by decide +kernel), a_mT 842 (by decide +kernel) (by decide +kernel)⟩
set_option maxRecDepth 100000 in
theorem a_ok_X5_shows : a_okM mX5_shows := ⟨a_mT 411 rfl rfl, rfl, by decide +kernel, ⟨by decide +kernel, by decide +kernel⟩, a_in5⟩
theorem a_iv_X5_shows : Cond.instanceMethod yX5_shows ∈ a_T0 ∧ Cond.selects yX5_shows.cls yX5_shows yX5_shows ∈ a_T0 := ⟨a_mT 409 (by decide +kernel) (by decide +kernel), a_mT 410 (by decide +kernel) (by decide +kernel)⟩
set_option maxRecDepth 100000 in
theorem a_ok_X6_shows : a_okM mX6_shows := ⟨a_mT 851 rfl rfl, rfl, by decide +kernel, ⟨by decide +kernel, by decide +kernel⟩, a_in6⟩
theorem a_iv_X6_shows : Cond.instanceMethod yX6_shows ∈ a_T0 ∧ Cond.selects yX6_shows.cls yX6_shows yX6_shows ∈ a_T0 := ⟨a_mT 849 (by decide +kernel) (by decide +kernel), a_mT 850 (by decide +kernel) (by decide +kernel)⟩
set_option maxRecDepth 100000 in
theorem a_ok_X5_window : a_okM mX5_window := ⟨a_mT 417 rfl rfl, rfl, by decide +kernel, ⟨by decide +kernel, by decide +kernel⟩, a_in5⟩
theorem a_iv_X5_window : Cond.instanceMethod yX5_window ∈ a_T0 ∧ Cond.selects yX5_window.cls yX5_window yX5_window ∈ a_T0 := ⟨a_mT 415 (by decide +kernel) (by decide +kernel), a_mT 416 (by decide +kernel) (by decide +kernel)⟩
set_option maxRecDepth 100000 in
theorem a_ok_X6_window : a_okM mX6_window := ⟨a_mT 855 rfl rfl, rfl, by decide +kernel, ⟨by decide +kernel, by decide +kernel⟩, a_in6⟩
theorem a_iv_X6_window : Cond.instanceMethod yX6_window ∈ a_T0 ∧ Cond.selects yX6_window.cls yX6_window yX6_window ∈ a_T0 := ⟨a_mT 853 (by decide +kernel) (by decide +kernel), a_mT 854 (by decide +kernel) (by decide +kernel)⟩
set_option maxRecDepth 100000 in
theorem a_ok_X5_spread : a_okM mX5_spread := ⟨a_mT 434 rfl rfl, rfl, by decide +kernel, ⟨by decide +kernel, by decide +kernel⟩, a_in5⟩
theorem a_iv_X5_spread : Cond.instanceMethod yX5_spread ∈ a_T0 ∧ Cond.selects yX5_spread.cls yX5_spread yX5_spread ∈ a_T0 := ⟨a_mT 432 (by decide +kernel) (by decide +kernel), a_mT 433 (by decide +kernel) (by decide +kernel)⟩
set_option maxRecDepth 100000 in
theorem a_ok_X6_spread : a_okM mX6_spread := ⟨a_mT 859 rfl rfl, rfl, by decide +kernel, ⟨by decide +kernel, by decide +kernel⟩, a_in6⟩
theorem a_iv_X6_spread : Cond.instanceMethod yX6_spread ∈ a_T0 ∧ Cond.selects yX6_spread.cls yX6_spread yX6_spread ∈ a_T0 := ⟨a_mT 857 (by decide +kernel) (by decide +kernel), a_mT 858 (by decide +kernel) (by decide +kernel)⟩
set_option maxRecDepth 100000 in
theorem a_ok_X5_mark : a_okM mX5_mark := ⟨a_mT 451 rfl rfl, rfl, by decide +kernel, ⟨by decide +kernel, by decide +kernel⟩, a_in5⟩
theorem a_iv_X5_mark : Cond.instanceMethod yX5_mark ∈ a_T0 ∧ Cond.selects yX5_mark.cls yX5_mark yX5_mark ∈ a_T0 := ⟨a_mT 449 (by decide +kernel) (by decide +kernel), a_mT 450 (by decide +kernel) (by decide +kernel)⟩
set_option maxRecDepth 100000 in
theorem a_ok_X6_mark : a_okM mX6_mark := ⟨a_mT 869 rfl rfl, rfl, by decide +kernel, ⟨by decide +kernel, by decide +kernel⟩, a_in6⟩
theorem a_iv_X6_mark : Cond.instanceMethod yX6_mark ∈ a_T0 ∧ Cond.selects yX6_mark.cls yX6_mark yX6_mark ∈ a_T0 := ⟨a_mT 867 (by decide +kernel) (by decide +kernel), a_mT 868 (by decide +kernel) (by decide +kernel)⟩
set_option maxRecDepth 100000 in
theorem a_ok_X5_under : a_okM mX5_under := ⟨a_mT 456 rfl rfl, rfl, by decide +kernel, ⟨by decide +kernel, by decide +kernel⟩, a_in5⟩
theorem a_iv_X5_under : Cond.instanceMethod yX5_under ∈ a_T0 ∧ Cond.selects yX5_under.cls yX5_under yX5_under ∈ a_T0 := ⟨a_mT 454 (by decide +kernel) (by decide +kernel), a_mT 455 (by decide +kernel) (by decide +kernel)⟩
set_option maxRecDepth 100000 in
theorem a_ok_X6_under : a_okM mX6_under := ⟨a_mT 873 rfl rfl, rfl, by decide +kernel, ⟨by decide +kernel, by decide +kernel⟩, a_in6⟩
theorem a_iv_X6_under : Cond.instanceMethod yX6_under ∈ a_T0 ∧ Cond.selects yX6_under.cls yX6_under yX6_under ∈ a_T0 := ⟨a_mT 871 (by decide +kernel) (by decide +kernel), a_mT 872 (by decide +kernel) (by decide +kernel)⟩
set_option maxRecDepth 100000 in
theorem a_ok_X5_cleaned : a_okM mX5_cleaned := ⟨a_mT 461 rfl rfl, rfl, by decide +kernel, ⟨by decide +kernel, by decide +kernel⟩, a_in5⟩
theorem a_iv_X5_cleaned : Cond.instanceMethod yX5_cleaned ∈ a_T0 ∧ Cond.selects yX5_cleaned.cls yX5_cleaned yX5_cleaned ∈ a_T0 := ⟨a_mT 459 (by decide +kernel) (by decide +kernel), a_mT 460 (by decide +kernel) (by decide +kernel)⟩
set_option maxRecDepth 100000 in
theorem a_ok_X6_cleaned : a_okM mX6_cleaned := ⟨a_mT 877 rfl rfl, rfl, by decide +kernel, ⟨by decide +kernel, by decide +kernel⟩, a_in6⟩
theorem a_iv_X6_cleaned : Cond.instanceMethod yX6_cleaned ∈ a_T0 ∧ Cond.selects yX6_cleaned.cls yX6_cleaned yX6_cleaned ∈ a_T0 := ⟨a_mT 875 (by decide +kernel) (by decide +kernel), a_mT 876 (by decide +kernel) (by decide +kernel)⟩
set_option maxRecDepth 100000 in
theorem a_ok_X5_paint : a_okM mX5_paint := ⟨a_mT 476 rfl rfl, rfl, by decide +kernel, ⟨by decide +kernel, by decide +kernel⟩, a_in5⟩
theorem a_iv_X5_paint : Cond.instanceMethod yX5_paint ∈ a_T0 ∧ Cond.selects yX5_paint.cls yX5_paint yX5_paint ∈ a_T0 := ⟨a_mT 474 (by decide +kernel) (by decide +kernel), a_mT 475 (by decide +kernel) (by decide +kernel)⟩
set_option maxRecDepth 100000 in
theorem a_ok_X6_paint : a_okM mX6_paint := ⟨a_mT 895 rfl rfl, rfl, by decide +kernel, ⟨by decide +kernel, by decide +kernel⟩, a_in6⟩
theorem a_iv_X6_paint : Cond.instanceMethod yX6_paint ∈ a_T0 ∧ Cond.selects yX6_paint.cls yX6_paint yX6_paint ∈ a_T0 := ⟨a_mT 893 (by decide +kernel) (by decide +kernel), a_mT 894 (by decide +kernel) (by decide +kernel)⟩
set_option maxRecDepth 100000 in
theorem a_ok_X5_light : a_okM mX5_light := ⟨a_mT 492 rfl rfl, rfl, by decide +kernel, ⟨by decide +kernel, by decide +kernel⟩, a_in5⟩
theorem a_iv_X5_light : Cond.instanceMethod yX5_light ∈ a_T0 ∧ Cond.selects yX5_light.cls yX5_light yX5_light ∈ a_T0 := ⟨a_mT 490 (by decide +kernel) (by decide +kernel), a_mT 491 (by decide +kernel) (by decide +kernel)⟩
set_option maxRecDepth 100000 in
theorem a_ok_X6_light : a_okM mX6_light := ⟨a_mT 903 rfl rfl, rfl, by decide +kernel, ⟨by decide +kernel, by decide +kernel⟩, a_in6⟩
theorem a_iv_X6_light : Cond.instanceMethod yX6_light ∈ a_T0 ∧ Cond.selects yX6_light.cls yX6_light yX6_light ∈ a_T0 := ⟨a_mT 901 (by decide +kernel) (by decide +kernel), a_mT 902 (by decide +kernel) (by decide +kernel)⟩
set_option maxRecDepth 100000 in
theorem a_ok_X5_rule : a_okM mX5_rule := ⟨a_mT 507 rfl rfl, rfl, by decide +kernel, ⟨by decide +kernel, by decide +kernel⟩, a_in5⟩
theorem a_iv_X5_rule : Cond.instanceMethod yX5_rule ∈ a_T0 ∧ Cond.selects yX5_rule.cls yX5_rule yX5_rule ∈ a_T0 := ⟨a_mT 505 (by decide +kernel) (by decide +kernel), a_mT 506 (by decide +kernel) (by decide +kernel)⟩
set_option maxRecDepth 100000 in
theorem a_ok_X6_rule : a_okM mX6_rule := ⟨a_mT 914 rfl rfl, rfl, by decide +kernel, ⟨by decide +kernel, by decide +kernel⟩, a_in6⟩
theorem a_iv_X6_rule : Cond.instanceMethod yX6_rule ∈ a_T0 ∧ Cond.selects yX6_rule.cls yX6_rule yX6_rule ∈ a_T0 := ⟨a_mT 912 (by decide +kernel) (by decide +kernel), a_mT 913 (by decide +kernel) (by decide +kernel)⟩
set_option maxRecDepth 100000 in
theorem a_ok_X5_table : a_okM mX5_table := ⟨a_mT 515 rfl rfl, rfl, by decide +kernel, ⟨by decide +kernel, by decide +kernel⟩, a_in5⟩
theorem a_iv_X5_table : Cond.instanceMethod yX5_table ∈ a_T0 ∧ Cond.selects yX5_table.cls yX5_table yX5_table ∈ a_T0 := ⟨a_mT 513 (by decide +kernel) (by decide +kernel), a_mT 514 (by decide +kernel) (by decide +kernel)⟩
set_option maxRecDepth 100000 in
theorem a_ok_X6_table : a_okM mX6_table := ⟨a_mT 925 rfl rfl, rfl, by decide +kernel, ⟨by decide +kernel, by decide +kernel⟩, a_in6⟩
theorem a_iv_X6_table : Cond.instanceMethod yX6_table ∈ a_T0 ∧ Cond.selects yX6_table.cls yX6_table yX6_table ∈ a_T0 := ⟨a_mT 923 (by decide +kernel) (by decide +kernel), a_mT 924 (by decide +kernel) (by decide +kernel)⟩
set_option maxRecDepth 100000 in
theorem a_ok_X5_lay : a_okM mX5_lay := ⟨a_mT 520 rfl rfl, rfl, by decide +kernel, ⟨by decide +kernel, by decide +kernel⟩, a_in5⟩
theorem a_iv_X5_lay : Cond.instanceMethod yX5_lay ∈ a_T0 ∧ Cond.selects yX5_lay.cls yX5_lay yX5_lay ∈ a_T0 := ⟨a_mT 518 (by decide +kernel) (by decide +kernel), a_mT 519 (by decide +kernel) (by decide +kernel)⟩
set_option maxRecDepth 100000 in
theorem a_ok_X6_lay : a_okM mX6_lay := ⟨a_mT 929 rfl rfl, rfl, by decide +kernel, ⟨by decide +kernel, by decide +kernel⟩, a_in6⟩
theorem a_iv_X6_lay : Cond.instanceMethod yX6_lay ∈ a_T0 ∧ Cond.selects yX6_lay.cls yX6_lay yX6_lay ∈ a_T0 := ⟨a_mT 927 (by decide +kernel) (by decide +kernel), a_mT 928 (by decide +kernel) (by decide +kernel)⟩
set_option maxRecDepth 100000 in
theorem a_ok_X5_undo : a_okM mX5_undo := ⟨a_mT 528 rfl rfl, rfl, by decide +kernel, ⟨by decide +kernel, by decide +kernel⟩, a_in5⟩
theorem a_iv_X5_undo : Cond.instanceMethod yX5_undo ∈ a_T0 ∧ Cond.selects yX5_undo.cls yX5_undo yX5_undo ∈ a_T0 := ⟨a_mT 526 (by decide +kernel) (by decide +kernel), a_mT 527 (by decide +kernel) (by decide +kernel)⟩
set_option maxRecDepth 100000 in
theorem a_ok_X6_undo : a_okM mX6_undo := ⟨a_mT 937 rfl rfl, rfl, by decide +kernel, ⟨by decide +kernel, by decide +kernel⟩, a_in6⟩
theorem a_iv_X6_undo : Cond.instanceMethod yX6_undo ∈ a_T0 ∧ Cond.selects yX6_undo.cls yX6_undo yX6_undo ∈ a_T0 := ⟨a_mT 935 (by decide +kernel) (by decide +kernel), a_mT 936 (by decide +kernel) (by decide +kernel)⟩
set_option maxRecDepth 100000 in
theorem a_ok_X5_fit : a_okM mX5_fit := ⟨a_mT 545 rfl rfl, rfl, by decide +kernel, ⟨by decide +kernel, by decide +kernel⟩, a_in5⟩
theorem a_iv_X5_fit : Cond.instanceMethod yX5_fit ∈ a_T0 ∧ Cond.selects yX5_fit.cls yX5_fit yX5_fit ∈ a_T0 := ⟨a_mT 543 (by decide +kernel) (by decide +kernel), a_mT 544 (by decide +kernel) (by decide +kernel)⟩
set_option maxRecDepth 100000 in
theorem a_ok_X6_fit : a_okM mX6_fit := ⟨a_mT 941 rfl rfl, rfl, by decide +kernel, ⟨by decide +kernel, by decide +kernel⟩, a_in6⟩
theorem a_iv_X6_fit : Cond.instanceMethod yX6_fit ∈ a_T0 ∧ Cond.selects yX6_fit.cls yX6_fit yX6_fit ∈ a_T0 := ⟨a_mT 939 (by decide +kernel) (by decide +kernel), a_mT 940 (by decide +kernel) (by decide +kernel)⟩
set_option maxRecDepth 100000 in
theorem a_ok_X5_best : a_okM mX5_best := ⟨a_mT 557 rfl rfl, rfl, by decide +kernel, ⟨by decide +kernel, by decide +kernel⟩, a_in5⟩
theorem a_iv_X5_best : Cond.instanceMethod yX5_best ∈ a_T0 ∧ Cond.selects yX5_best.cls yX5_best yX5_best ∈ a_T0 := ⟨a_mT 555 (by decide +kernel) (by decide +kernel), a_mT 556 (by decide +kernel) (by decide +kernel)⟩
set_option maxRecDepth 100000 in
theorem a_ok_X6_best : a_okM mX6_best := ⟨a_mT 949 rfl rfl, rfl, by decide +kernel, ⟨by decide +kernel, by decide +kernel⟩, a_in6⟩
theorem a_iv_X6_best : Cond.instanceMethod yX6_best ∈ a_T0 ∧ Cond.selects yX6_best.cls yX6_best yX6_best ∈ a_T0 := ⟨a_mT 947 (by decide +kernel) (by decide +kernel), a_mT 948 (by decide +kernel) (by decide +kernel)⟩
set_option maxRecDepth 100000 in
theorem a_ok_X5_judge : a_okM mX5_judge := ⟨a_mT 572 rfl rfl, rfl, by decide +kernel, ⟨by decide +kernel, by decide +kernel⟩, a_in5⟩
theorem a_iv_X5_judge : Cond.instanceMethod yX5_judge ∈ a_T0 ∧ Cond.selects yX5_judge.cls yX5_judge yX5_judge ∈ a_T0 := ⟨a_mT 570 (by decide +kernel) (by decide +kernel), a_mT 571 (by decide +kernel) (by decide +kernel)⟩
set_option maxRecDepth 100000 in
theorem a_ok_X6_judge : a_okM mX6_judge := ⟨a_mT 969 rfl rfl, rfl, by decide +kernel, ⟨by decide +kernel, by decide +kernel⟩, a_in6⟩
theorem a_iv_X6_judge : Cond.instanceMethod yX6_judge ∈ a_T0 ∧ Cond.selects yX6_judge.cls yX6_judge yX6_judge ∈ a_T0 := ⟨a_mT 967 (by decide +kernel) (by decide +kernel), a_mT 968 (by decide +kernel) (by decide +kernel)⟩
set_option maxRecDepth 100000 in
theorem a_ok_X5_share : a_okM mX5_share := ⟨a_mT 612 rfl rfl, rfl, by decide +kernel, ⟨by decide +kernel, by decide +kernel⟩, a_in5⟩
theorem a_iv_X5_share : Cond.instanceMethod yX5_share ∈ a_T0 ∧ Cond.selects yX5_share.cls yX5_share yX5_share ∈ a_T0 := ⟨a_mT 610 (by decide +kernel) (by decide +kernel), a_mT 611 (by decide +kernel) (by decide +kernel)⟩
set_option maxRecDepth 100000 in
theorem a_ok_X6_share : a_okM mX6_share := ⟨a_mT 998 rfl rfl, rfl, by decide +kernel, ⟨by decide +kernel, by decide +kernel⟩, a_in6⟩
theorem a_iv_X6_share : Cond.instanceMethod yX6_share ∈ a_T0 ∧ Cond.selects yX6_share.cls yX6_share yX6_share ∈ a_T0 := ⟨a_mT 996 (by decide +kernel) (by decide +kernel), a_mT 997 (by decide +kernel) (by decide +kernel)⟩
set_option maxRecDepth 100000 in
theorem a_ok_X5_see : a_okM mX5_see := ⟨a_mT 636 rfl rfl, rfl, by decide +kernel, ⟨by decide +kernel, by decide +kernel⟩, a_in5⟩
theorem a_iv_X5_see : Cond.instanceMethod yX5_see ∈ a_T0 ∧ Cond.selects yX5_see.cls yX5_see yX5_see ∈ a_T0 := ⟨a_mT 634 (by decide +kernel) (by decide +kernel), a_mT 635 (by decide +kernel) (by decide +kernel)⟩
set_option maxRecDepth 100000 in
theorem a_ok_X6_see : a_okM mX6_see := ⟨a_mT 1009 rfl rfl, rfl, by decide +kernel, ⟨by decide +kernel, by decide +kernel⟩, a_in6⟩
theorem a_iv_X6_see : Cond.instanceMethod yX6_see ∈ a_T0 ∧ Cond.selects yX6_see.cls yX6_see yX6_see ∈ a_T0 := ⟨a_mT 1007 (by decide +kernel) (by decide +kernel), a_mT 1008 (by decide +kernel) (by decide +kernel)⟩
set_option maxRecDepth 100000 in
theorem a_ok_X5_unsee : a_okM mX5_unsee := ⟨a_mT 649 rfl rfl, rfl, by decide +kernel, ⟨by decide +kernel, by decide +kernel⟩, a_in5⟩
theorem a_iv_X5_unsee : Cond.instanceMethod yX5_unsee ∈ a_T0 ∧ Cond.selects yX5_unsee.cls yX5_unsee yX5_unsee ∈ a_T0 := ⟨a_mT 647 (by decide +kernel) (by decide +kernel), a_mT 648 (by decide +kernel) (by decide +kernel)⟩
set_option maxRecDepth 100000 in
theorem a_ok_X6_unsee : a_okM mX6_unsee := ⟨a_mT 1013 rfl rfl, rfl, by decide +kernel, ⟨by decide +kernel, by decide +kernel⟩, a_in6⟩
theorem a_iv_X6_unsee : Cond.instanceMethod yX6_unsee ∈ a_T0 ∧ Cond.selects yX6_unsee.cls yX6_unsee yX6_unsee ∈ a_T0 := ⟨a_mT 1011 (by decide +kernel) (by decide +kernel), a_mT 1012 (by decide +kernel) (by decide +kernel)⟩
set_option maxRecDepth 100000 in
theorem a_ok_X5_ways : a_okM mX5_ways := ⟨a_mT 657 rfl rfl, rfl, by decide +kernel, ⟨by decide +kernel, by decide +kernel⟩, a_in5⟩
theorem a_iv_X5_ways : Cond.instanceMethod yX5_ways ∈ a_T0 ∧ Cond.selects yX5_ways.cls yX5_ways yX5_ways ∈ a_T0 := ⟨a_mT 655 (by decide +kernel) (by decide +kernel), a_mT 656 (by decide +kernel) (by decide +kernel)⟩
set_option maxRecDepth 100000 in
theorem a_ok_X6_ways : a_okM mX6_ways := ⟨a_mT 1017 rfl rfl, rfl, by decide +kernel, ⟨by decide +kernel, by decide +kernel⟩, a_in6⟩
theorem a_iv_X6_ways : Cond.instanceMethod yX6_ways ∈ a_T0 ∧ Cond.selects yX6_ways.cls yX6_ways yX6_ways ∈ a_T0 := ⟨a_mT 1015 (by decide +kernel) (by decide +kernel), a_mT 1016 (by decide +kernel) (by decide +kernel)⟩
set_option maxRecDepth 100000 in
theorem a_ok_X5_bleached : a_okM mX5_bleached := ⟨a_mT 665 rfl rfl, rfl, by decide +kernel, ⟨by decide +kernel, by decide +kernel⟩, a_in5⟩
theorem a_iv_X5_bleached : Cond.instanceMethod yX5_bleached ∈ a_T0 ∧ Cond.selects yX5_bleached.cls yX5_bleached yX5_bleached ∈ a_T0 := ⟨a_mT 663 (by decide +kernel) (by decide +kernel), a_mT 664 (by decide +kernel) (by decide +kernel)⟩
set_option maxRecDepth 100000 in
theorem a_ok_X6_bleached : a_okM mX6_bleached := ⟨a_mT 1021 rfl rfl, rfl, by decide +kernel, ⟨by decide +kernel, by decide +kernel⟩, a_in6⟩
theorem a_iv_X6_bleached : Cond.instanceMethod yX6_bleached ∈ a_T0 ∧ Cond.selects yX6_bleached.cls yX6_bleached yX6_bleached ∈ a_T0 := ⟨a_mT 1019 (by decide +kernel) (by decide +kernel), a_mT 1020 (by decide +kernel) (by decide +kernel)⟩
set_option maxRecDepth 100000 in
theorem a_ok_X5_seed : a_okM mX5_seed := ⟨a_mT 676 rfl rfl, rfl, by decide +kernel, ⟨by decide +kernel, by decide +kernel⟩, a_in5⟩
theorem a_iv_X5_seed : Cond.instanceMethod yX5_seed ∈ a_T0 ∧ Cond.selects yX5_seed.cls yX5_seed yX5_seed ∈ a_T0 := ⟨a_mT 674 (by decide +kernel) (by decide +kernel), a_mT 675 (by decide +kernel) (by decide +kernel)⟩
set_option maxRecDepth 100000 in
theorem a_ok_X6_seed : a_okM mX6_seed := ⟨a_mT 1029 rfl rfl, rfl, by decide +kernel, ⟨by decide +kernel, by decide +kernel⟩, a_in6⟩
theorem a_iv_X6_seed : Cond.instanceMethod yX6_seed ∈ a_T0 ∧ Cond.selects yX6_seed.cls yX6_seed yX6_seed ∈ a_T0 := ⟨a_mT 1027 (by decide +kernel) (by decide +kernel), a_mT 1028 (by decide +kernel) (by decide +kernel)⟩
set_option maxRecDepth 100000 in
theorem a_ok_X5_drawn : a_okM mX5_drawn := ⟨a_mT 680 rfl rfl, rfl, by decide +kernel, ⟨by decide +kernel, by decide +kernel⟩, a_in5⟩
theorem a_iv_X5_drawn : Cond.instanceMethod yX5_drawn ∈ a_T0 ∧ Cond.selects yX5_drawn.cls yX5_drawn yX5_drawn ∈ a_T0 := ⟨a_mT 678 (by decide +kernel) (by decide +kernel), a_mT 679 (by decide +kernel) (by decide +kernel)⟩
set_option maxRecDepth 100000 in
theorem a_ok_X6_drawn : a_okM mX6_drawn := ⟨a_mT 1033 rfl rfl, rfl, by decide +kernel, ⟨by decide +kernel, by decide +kernel⟩, a_in6⟩
theorem a_iv_X6_drawn : Cond.instanceMethod yX6_drawn ∈ a_T0 ∧ Cond.selects yX6_drawn.cls yX6_drawn yX6_drawn ∈ a_T0 := ⟨a_mT 1031 (by decide +kernel) (by decide +kernel), a_mT 1032 (by decide +kernel) (by decide +kernel)⟩
set_option maxRecDepth 100000 in
theorem a_ok_X5_keep : a_okM mX5_keep := ⟨a_mT 689 rfl rfl, rfl, by decide +kernel, ⟨by decide +kernel, by decide +kernel⟩, a_in5⟩
theorem a_iv_X5_keep : Cond.instanceMethod yX5_keep ∈ a_T0 ∧ Cond.selects yX5_keep.cls yX5_keep yX5_keep ∈ a_T0 := ⟨a_mT 687 (by decide +kernel) (by decide +kernel), a_mT 688 (by decide +kernel) (by decide +kernel)⟩
set_option maxRecDepth 100000 in
theorem a_ok_X6_keep : a_okM mX6_keep := ⟨a_mT 1040 rfl rfl, rfl, by decide +kernel, ⟨by decide +kernel, by decide +kernel⟩, a_in6⟩
theorem a_iv_X6_keep : Cond.instanceMethod yX6_keep ∈ a_T0 ∧ Cond.selects yX6_keep.cls yX6_keep yX6_keep ∈ a_T0 := ⟨a_mT 1038 (by decide +kernel) (by decide +kernel), a_mT 1039 (by decide +kernel) (by decide +kernel)⟩
set_option maxRecDepth 100000 in
theorem a_ok_X5_again : a_okM mX5_again := ⟨a_mT 700 rfl rfl, rfl, by decide +kernel, ⟨by decide +kernel, by decide +kernel⟩, a_in5⟩
theorem a_iv_X5_again : Cond.instanceMethod yX5_again ∈ a_T0 ∧ Cond.selects yX5_again.cls yX5_again yX5_again ∈ a_T0 := ⟨a_mT 698 (by decide +kernel) (by decide +kernel), a_mT 699 (by decide +kernel) (by decide +kernel)⟩
set_option maxRecDepth 100000 in
theorem a_ok_X6_again : a_okM mX6_again := ⟨a_mT 1044 rfl rfl, rfl, by decide +kernel, ⟨by decide +kernel, by decide +kernel⟩, a_in6⟩
theorem a_iv_X6_again : Cond.instanceMethod yX6_again ∈ a_T0 ∧ Cond.selects yX6_again.cls yX6_again yX6_again ∈ a_T0 := ⟨a_mT 1042 (by decide +kernel) (by decide +kernel), a_mT 1043 (by decide +kernel) (by decide +kernel)⟩
def a_okC (q : Nat × Nat × Nat × Nat × aM) : Prop := a_okM q.2.2.2.2 ∧ (parseMethodDescriptor q.2.2.2.2.2.1.desc).map (fun d => d.parameters.length) = some q.2.2.2.1 ∧
  (q.2.2.1 = 0 → Cond.methodLink (a_cn q.1) q.2.1 q.2.2.2.2.2.1 ∈ a_T0 ∧ Cond.static q.2.2.2.2.2.1 ∈ a_T0) ∧
  (q.2.2.1 = 1 → Cond.methodLink (a_cn q.1) q.2.1 q.2.2.2.2.2.1 ∈ a_T0 ∧ (Cond.instanceMethod q.2.2.2.2.2.1 ∈ a_T0 ∧ Cond.selects q.2.2.2.2.2.1.cls q.2.2.2.2.2.1 q.2.2.2.2.2.1 ∈ a_T0) ∧ q.2.2.2.2.1 < 7) ∧
  (q.2.2.1 = 2 → (q.1 = 3 ∧ q.2.1 = 77 ∧ q.2.2.2.2 = mX5_isFigure) ∧ Cond.static q.2.2.2.2.2.1 ∈ a_T0)
theorem a_c_0_28 : a_okC (0, 28, 1, 0, mX0_forgetFirst) := ⟨a_ok_X0_forgetFirst, by decide +kernel, (fun h => absurd h (by decide)), fun _ => ⟨a_mT 481 (by decide +kernel) (by decide +kernel), a_iv_X0_forgetFirst, by decide⟩, (fun h => absurd h (by decide))⟩
theorem a_c_0_37 : a_okC (0, 37, 1, 4, mX0_takeBack) := ⟨a_ok_X0_takeBack, by decide +kernel, (fun h => absurd h (by decide)), fun _ => ⟨a_mT 533 (by decide +kernel) (by decide +kernel), a_iv_X0_takeBack, by decide⟩, (fun h => absurd h (by decide))⟩
theorem a_c_0_41 : a_okC (0, 41, 1, 3, mX3_setGrey) := ⟨a_ok_X3_setGrey, by decide +kernel, (fun h => absurd h (by decide)), fun _ => ⟨a_mT 537 (by decide +kernel) (by decide +kernel), a_iv_X3_setGrey, by decide⟩, (fun h => absurd h (by decide))⟩
theorem a_c_0_47 : a_okC (0, 47, 1, 1, mX3_lighten) := ⟨a_ok_X3_lighten, by decide +kernel, (fun h => absurd h (by decide)), fun _ => ⟨a_mT 538 (by decide +kernel) (by decide +kernel), a_iv_X3_lighten, by decide⟩, (fun h => absurd h (by decide))⟩
theorem a_c_0_51 : a_okC (0, 51, 1, 3, mX3_setRule) := ⟨a_ok_X3_setRule, by decide +kernel, (fun h => absurd h (by decide)), fun _ => ⟨a_mT 539 (by decide +kernel) (by decide +kernel), a_iv_X3_setRule, by decide⟩, (fun h => absurd h (by decide))⟩
theorem a_c_0_54 : a_okC (0, 54, 1, 2, mX3_setShown) := ⟨a_ok_X3_setShown, by decide +kernel, (fun h => absurd h (by decide)), fun _ => ⟨a_mT 540 (by decide +kernel) (by decide +kernel), a_iv_X3_setShown, by decide⟩, (fun h => absurd h (by decide))⟩
theorem a_c_0_58 : a_okC (0, 58, 1, 2, mX3_setLie) := ⟨a_ok_X3_setLie, by decide +kernel, (fun h => absurd h (by decide)), fun _ => ⟨a_mT 541 (by decide +kernel) (by decide +kernel), a_iv_X3_setLie, by decide⟩, (fun h => absurd h (by decide))⟩
theorem a_crL0_ok : ∀ q ∈ a_crL0, a_okC q := List.forall_mem_cons.mpr ⟨a_c_0_28, List.forall_mem_cons.mpr ⟨a_c_0_37, List.forall_mem_cons.mpr ⟨a_c_0_41, List.forall_mem_cons.mpr ⟨a_c_0_47, List.forall_mem_cons.mpr ⟨a_c_0_51, List.forall_mem_cons.mpr ⟨a_c_0_54, List.forall_mem_cons.mpr ⟨a_c_0_58, fun _ h => absurd h List.not_mem_nil⟩⟩⟩⟩⟩⟩⟩
theorem a_c_1_39 : a_okC (1, 39, 1, 2, mX1_look) := ⟨a_ok_X1_look, by decide +kernel, (fun h => absurd h (by decide)), fun _ => ⟨a_mT 321 (by decide +kernel) (by decide +kernel), a_iv_X1_look, by decide⟩, (fun h => absurd h (by decide))⟩
theorem a_c_1_46 : a_okC (1, 46, 1, 2, mX1_dotsMarked) := ⟨a_ok_X1_dotsMarked, by decide +kernel, (fun h => absurd h (by decide)), fun _ => ⟨a_mT 359 (by decide +kernel) (by decide +kernel), a_iv_X1_dotsMarked, by decide⟩, (fun h => absurd h (by decide))⟩
theorem a_c_1_50 : a_okC (1, 50, 0, 1, mJ6_bitCount_0f7a4) := ⟨a_ok_J6_bitCount_0f7a4, by decide +kernel, fun _ => ⟨a_mT 374 (by decide +kernel) (by decide +kernel), a_st_J6_bitCount_0f7a4⟩, (fun h => absurd h (by decide)), (fun h => absurd h (by decide))⟩
theorem a_c_1_56 : a_okC (1, 56, 1, 0, mX3_dots) := ⟨a_ok_X3_dots, by decide +kernel, (fun h => absurd h (by decide)), fun _ => ⟨a_mT 325 (by decide +kernel) (by decide +kernel), a_iv_X3_dots, by decide⟩, (fun h => absurd h (by decide))⟩
theorem a_c_1_59 : a_okC (1, 59, 1, 3, mX1_lookAt) := ⟨a_ok_X1_lookAt, by decide +kernel, (fun h => absurd h (by decide)), fun _ => ⟨a_mT 326 (by decide +kernel) (by decide +kernel), a_iv_X1_lookAt, by decide⟩, (fun h => absurd h (by decide))⟩
theorem a_c_1_63 : a_okC (1, 63, 1, 1, mX3_has) := ⟨a_ok_X3_has, by decide +kernel, (fun h => absurd h (by decide)), fun _ => ⟨a_mT 330 (by decide +kernel) (by decide +kernel), a_iv_X3_has, by decide⟩, (fun h => absurd h (by decide))⟩
theorem a_c_1_68 : a_okC (1, 68, 1, 2, mX3_greyOf) := ⟨a_ok_X3_greyOf, by decide +kernel, (fun h => absurd h (by decide)), fun _ => ⟨a_mT 331 (by decide +kernel) (by decide +kernel), a_iv_X3_greyOf, by decide⟩, (fun h => absurd h (by decide))⟩
theorem a_c_1_71 : a_okC (1, 71, 1, 1, mX3_greyAlone) := ⟨a_ok_X3_greyAlone, by decide +kernel, (fun h => absurd h (by decide)), fun _ => ⟨a_mT 335 (by decide +kernel) (by decide +kernel), a_iv_X3_greyAlone, by decide⟩, (fun h => absurd h (by decide))⟩
theorem a_c_1_74 : a_okC (1, 74, 1, 1, mX3_columnOf) := ⟨a_ok_X3_columnOf, by decide +kernel, (fun h => absurd h (by decide)), fun _ => ⟨a_mT 349 (by decide +kernel) (by decide +kernel), a_iv_X3_columnOf, by decide⟩, (fun h => absurd h (by decide))⟩
theorem a_c_1_77 : a_okC (1, 77, 1, 1, mX3_rowOf) := ⟨a_ok_X3_rowOf, by decide +kernel, (fun h => absurd h (by decide)), fun _ => ⟨a_mT 353 (by decide +kernel) (by decide +kernel), a_iv_X3_rowOf, by decide⟩, (fun h => absurd h (by decide))⟩
theorem a_c_1_94 : a_okC (1, 94, 0, 1, mX1_isPlace) := ⟨a_ok_X1_isPlace, by decide +kernel, fun _ => ⟨a_mT 367 (by decide +kernel) (by decide +kernel), a_st_X1_isPlace⟩, (fun h => absurd h (by decide)), (fun h => absurd h (by decide))⟩
theorem a_c_1_97 : a_okC (1, 97, 1, 2, mX1_markOf) := ⟨a_ok_X1_markOf, by decide +kernel, (fun h => absurd h (by decide)), fun _ => ⟨a_mT 363 (by decide +kernel) (by decide +kernel), a_iv_X1_markOf, by decide⟩, (fun h => absurd h (by decide))⟩
theorem a_c_1_100 : a_okC (1, 100, 1, 3, mX1_isDark) := ⟨a_ok_X1_isDark, by decide +kernel, (fun h => absurd h (by decide)), fun _ => ⟨a_mT 370 (by decide +kernel) (by decide +kernel), a_iv_X1_isDark, by decide⟩, (fun h => absurd h (by decide))⟩
theorem a_crL1_ok : ∀ q ∈ a_crL1, a_okC q := List.forall_mem_cons.mpr ⟨a_c_1_39, List.forall_mem_cons.mpr ⟨a_c_1_46, List.forall_mem_cons.mpr ⟨a_c_1_50, List.forall_mem_cons.mpr ⟨a_c_1_56, List.forall_mem_cons.mpr ⟨a_c_1_59, List.forall_mem_cons.mpr ⟨a_c_1_63, List.forall_mem_cons.mpr ⟨a_c_1_68, List.forall_mem_cons.mpr ⟨a_c_1_71, List.forall_mem_cons.mpr ⟨a_c_1_74, List.forall_mem_cons.mpr ⟨a_c_1_77, List.forall_mem_cons.mpr ⟨a_c_1_94, List.forall_mem_cons.mpr ⟨a_c_1_97, List.forall_mem_cons.mpr ⟨a_c_1_100, fun _ h => absurd h List.not_mem_nil⟩⟩⟩⟩⟩⟩⟩⟩⟩⟩⟩⟩⟩
theorem a_c_2_22 : a_okC (2, 22, 1, 0, mX2_isFull) := ⟨a_ok_X2_isFull, by decide +kernel, (fun h => absurd h (by decide)), fun _ => ⟨a_mT 645 (by decide +kernel) (by decide +kernel), a_iv_X2_isFull, by decide⟩, (fun h => absurd h (by decide))⟩
theorem a_crL2_ok : ∀ q ∈ a_crL2, a_okC q := List.forall_mem_cons.mpr ⟨a_c_2_22, fun _ h => absurd h List.not_mem_nil⟩
theorem a_c_3_43 : a_okC (3, 43, 1, 1, mX4_figureAt) := ⟨a_ok_X4_figureAt, by decide +kernel, (fun h => absurd h (by decide)), fun _ => ⟨a_mT 280 (by decide +kernel) (by decide +kernel), a_iv_X4_figureAt, by decide⟩, (fun h => absurd h (by decide))⟩
theorem a_c_3_49 : a_okC (3, 49, 1, 0, mX3_dots) := ⟨a_ok_X3_dots, by decide +kernel, (fun h => absurd h (by decide)), fun _ => ⟨a_mT 281 (by decide +kernel) (by decide +kernel), a_iv_X3_dots, by decide⟩, (fun h => absurd h (by decide))⟩
theorem a_c_3_53 : a_okC (3, 53, 1, 3, mX3_setGrey) := ⟨a_ok_X3_setGrey, by decide +kernel, (fun h => absurd h (by decide)), fun _ => ⟨a_mT 285 (by decide +kernel) (by decide +kernel), a_iv_X3_setGrey, by decide⟩, (fun h => absurd h (by decide))⟩
theorem a_c_3_57 : a_okC (3, 57, 1, 2, mX3_setShown) := ⟨a_ok_X3_setShown, by decide +kernel, (fun h => absurd h (by decide)), fun _ => ⟨a_mT 293 (by decide +kernel) (by decide +kernel), a_iv_X3_setShown, by decide⟩, (fun h => absurd h (by decide))⟩
theorem a_c_3_61 : a_okC (3, 61, 1, 3, mX3_setRule) := ⟨a_ok_X3_setRule, by decide +kernel, (fun h => absurd h (by decide)), fun _ => ⟨a_mT 300 (by decide +kernel) (by decide +kernel), a_iv_X3_setRule, by decide⟩, (fun h => absurd h (by decide))⟩
theorem a_c_3_64 : a_okC (3, 64, 1, 2, mX3_setLie) := ⟨a_ok_X3_setLie, by decide +kernel, (fun h => absurd h (by decide)), fun _ => ⟨a_mT 304 (by decide +kernel) (by decide +kernel), a_iv_X3_setLie, by decide⟩, (fun h => absurd h (by decide))⟩
theorem a_c_3_73 : a_okC (3, 73, 1, 1, mX3_has) := ⟨a_ok_X3_has, by decide +kernel, (fun h => absurd h (by decide)), fun _ => ⟨a_mT 289 (by decide +kernel) (by decide +kernel), a_iv_X3_has, by decide⟩, (fun h => absurd h (by decide))⟩
theorem a_c_3_80 : a_okC (3, 80, 1, 2, mX3_greyOf) := ⟨a_ok_X3_greyOf, by decide +kernel, (fun h => absurd h (by decide)), fun _ => ⟨a_mT 339 (by decide +kernel) (by decide +kernel), a_iv_X3_greyOf, by decide⟩, (fun h => absurd h (by decide))⟩
theorem a_c_3_84 : a_okC (3, 84, 1, 3, mX3_lyingUnder) := ⟨a_ok_X3_lyingUnder, by decide +kernel, (fun h => absurd h (by decide)), fun _ => ⟨a_mT 340 (by decide +kernel) (by decide +kernel), a_iv_X3_lyingUnder, by decide⟩, (fun h => absurd h (by decide))⟩
theorem a_c_3_88 : a_okC (3, 88, 1, 1, mX3_shownFor) := ⟨a_ok_X3_shownFor, by decide +kernel, (fun h => absurd h (by decide)), fun _ => ⟨a_mT 344 (by decide +kernel) (by decide +kernel), a_iv_X3_shownFor, by decide⟩, (fun h => absurd h (by decide))⟩
theorem a_c_3_96 : a_okC (3, 96, 1, 1, mX3_withNeighbours) := ⟨a_ok_X3_withNeighbours, by decide +kernel, (fun h => absurd h (by decide)), fun _ => ⟨a_mT 468 (by decide +kernel) (by decide +kernel), a_iv_X3_withNeighbours, by decide⟩, (fun h => absurd h (by decide))⟩
theorem a_c_3_77 : a_okC (3, 77, 2, 1, mX5_isFigure) := ⟨a_ok_X5_isFigure, by decide +kernel, (fun h => absurd h (by decide)), (fun h => absurd h (by decide)), fun _ => ⟨⟨rfl, rfl, rfl⟩, a_st_X5_isFigure⟩⟩
theorem a_crL3_ok : ∀ q ∈ a_crL3, a_okC q := List.forall_mem_cons.mpr ⟨a_c_3_43, List.forall_mem_cons.mpr ⟨a_c_3_49, List.forall_mem_cons.mpr ⟨a_c_3_53, List.forall_mem_cons.mpr ⟨a_c_3_57, List.forall_mem_cons.mpr ⟨a_c_3_61, List.forall_mem_cons.mpr ⟨a_c_3_64, List.forall_mem_cons.mpr ⟨a_c_3_73, List.forall_mem_cons.mpr ⟨a_c_3_80, List.forall_mem_cons.mpr ⟨a_c_3_84, List.forall_mem_cons.mpr ⟨a_c_3_88, List.forall_mem_cons.mpr ⟨a_c_3_96, List.forall_mem_cons.mpr ⟨a_c_3_77, fun _ h => absurd h List.not_mem_nil⟩⟩⟩⟩⟩⟩⟩⟩⟩⟩⟩⟩
theorem a_c_4_19 : a_okC (4, 19, 1, 0, mX4_isFull) := ⟨a_ok_X4_isFull, by decide +kernel, (fun h => absurd h (by decide)), fun _ => ⟨a_mT 233 (by decide +kernel) (by decide +kernel), a_iv_X4_isFull, by decide⟩, (fun h => absurd h (by decide))⟩
theorem a_c_4_23 : a_okC (4, 23, 1, 1, mX4_fits) := ⟨a_ok_X4_fits, by decide +kernel, (fun h => absurd h (by decide)), fun _ => ⟨a_mT 250 (by decide +kernel) (by decide +kernel), a_iv_X4_fits, by decide⟩, (fun h => absurd h (by decide))⟩
theorem a_c_4_27 : a_okC (4, 27, 1, 0, mX4_dotsTold) := ⟨a_ok_X4_dotsTold, by decide +kernel, (fun h => absurd h (by decide)), fun _ => ⟨a_mT 258 (by decide +kernel) (by decide +kernel), a_iv_X4_dotsTold, by decide⟩, (fun h => absurd h (by decide))⟩
theorem a_c_4_31 : a_okC (4, 31, 1, 1, mX4_letterAt) := ⟨a_ok_X4_letterAt, by decide +kernel, (fun h => absurd h (by decide)), fun _ => ⟨a_mT 254 (by decide +kernel) (by decide +kernel), a_iv_X4_letterAt, by decide⟩, (fun h => absurd h (by decide))⟩
theorem a_c_4_44 : a_okC (4, 44, 1, 1, mX4_figureAt) := ⟨a_ok_X4_figureAt, by decide +kernel, (fun h => absurd h (by decide)), fun _ => ⟨a_mT 262 (by decide +kernel) (by decide +kernel), a_iv_X4_figureAt, by decide⟩, (fun h => absurd h (by decide))⟩
theorem a_crL4_ok : ∀ q ∈ a_crL4, a_okC q := List.forall_mem_cons.mpr ⟨a_c_4_19, List.forall_mem_cons.mpr ⟨a_c_4_23, List.forall_mem_cons.mpr ⟨a_c_4_27, List.forall_mem_cons.mpr ⟨a_c_4_31, List.forall_mem_cons.mpr ⟨a_c_4_44, fun _ h => absurd h List.not_mem_nil⟩⟩⟩⟩⟩
theorem a_c_5_65 : a_okC (5, 65, 1, 0, mX4_isFull) := ⟨a_ok_X4_isFull, by decide +kernel, (fun h => absurd h (by decide)), fun _ => ⟨a_mT 225 (by decide +kernel) (by decide +kernel), a_iv_X4_isFull, by decide⟩, (fun h => absurd h (by decide))⟩
theorem a_c_5_69 : a_okC (5, 69, 1, 1, mX4_append) := ⟨a_ok_X4_append, by decide +kernel, (fun h => absurd h (by decide)), fun _ => ⟨a_mT 229 (by decide +kernel) (by decide +kernel), a_iv_X4_append, by decide⟩, (fun h => absurd h (by decide))⟩
theorem a_c_5_73 : a_okC (5, 73, 1, 0, mX4_clear) := ⟨a_ok_X4_clear, by decide +kernel, (fun h => absurd h (by decide)), fun _ => ⟨a_mT 238 (by decide +kernel) (by decide +kernel), a_iv_X4_clear, by decide⟩, (fun h => absurd h (by decide))⟩
theorem a_c_5_77 : a_okC (5, 77, 1, 0, mX4_firstFault) := ⟨a_ok_X4_firstFault, by decide +kernel, (fun h => absurd h (by decide)), fun _ => ⟨a_mT 246 (by decide +kernel) (by decide +kernel), a_iv_X4_firstFault, by decide⟩, (fun h => absurd h (by decide))⟩
theorem a_c_5_80 : a_okC (5, 80, 1, 1, mX3_becomeText) := ⟨a_ok_X3_becomeText, by decide +kernel, (fun h => absurd h (by decide)), fun _ => ⟨a_mT 276 (by decide +kernel) (by decide +kernel), a_iv_X3_becomeText, by decide⟩, (fun h => absurd h (by decide))⟩
theorem a_c_5_84 : a_okC (5, 84, 1, 0, mX0_forgetAll) := ⟨a_ok_X0_forgetAll, by decide +kernel, (fun h => absurd h (by decide)), fun _ => ⟨a_mT 308 (by decide +kernel) (by decide +kernel), a_iv_X0_forgetAll, by decide⟩, (fun h => absurd h (by decide))⟩
theorem a_c_5_87 : a_okC (5, 87, 1, 0, mX3_dots) := ⟨a_ok_X3_dots, by decide +kernel, (fun h => absurd h (by decide)), fun _ => ⟨a_mT 312 (by decide +kernel) (by decide +kernel), a_iv_X3_dots, by decide⟩, (fun h => absurd h (by decide))⟩
theorem a_c_5_96 : a_okC (5, 96, 1, 2, mX1_howMany) := ⟨a_ok_X1_howMany, by decide +kernel, (fun h => absurd h (by decide)), fun _ => ⟨a_mT 317 (by decide +kernel) (by decide +kernel), a_iv_X1_howMany, by decide⟩, (fun h => absurd h (by decide))⟩
theorem a_c_5_100 : a_okC (5, 100, 1, 0, mX3_greysTogether) := ⟨a_ok_X3_greysTogether, by decide +kernel, (fun h => absurd h (by decide)), fun _ => ⟨a_mT 380 (by decide +kernel) (by decide +kernel), a_iv_X3_greysTogether, by decide⟩, (fun h => absurd h (by decide))⟩
theorem a_c_5_118 : a_okC (5, 118, 0, 2, mX5_lieNumber) := ⟨a_ok_X5_lieNumber, by decide +kernel, fun _ => ⟨a_mT 384 (by decide +kernel) (by decide +kernel), a_st_X5_lieNumber⟩, (fun h => absurd h (by decide)), (fun h => absurd h (by decide))⟩
theorem a_c_5_122 : a_okC (5, 122, 1, 0, mX0_size) := ⟨a_ok_X0_size, by decide +kernel, (fun h => absurd h (by decide)), fun _ => ⟨a_mT 387 (by decide +kernel) (by decide +kernel), a_iv_X0_size, by decide⟩, (fun h => absurd h (by decide))⟩
theorem a_c_5_125 : a_okC (5, 125, 1, 0, mX2_size) := ⟨a_ok_X2_size, by decide +kernel, (fun h => absurd h (by decide)), fun _ => ⟨a_mT 391 (by decide +kernel) (by decide +kernel), a_iv_X2_size, by decide⟩, (fun h => absurd h (by decide))⟩
theorem a_c_5_126 : a_okC (5, 126, 1, 0, mX4_size) := ⟨a_ok_X4_size, by decide +kernel, (fun h => absurd h (by decide)), fun _ => ⟨a_mT 395 (by decide +kernel) (by decide +kernel), a_iv_X4_size, by decide⟩, (fun h => absurd h (by decide))⟩
theorem a_c_5_127 : a_okC (5, 127, 0, 1, mX5_isSide) := ⟨a_ok_X5_isSide, by decide +kernel, fun _ => ⟨a_mT 403 (by decide +kernel) (by decide +kernel), a_st_X5_isSide⟩, (fun h => absurd h (by decide)), (fun h => absurd h (by decide))⟩
theorem a_c_5_131 : a_okC (5, 131, 1, 1, mX3_has) := ⟨a_ok_X3_has, by decide +kernel, (fun h => absurd h (by decide)), fun _ => ⟨a_mT 406 (by decide +kernel) (by decide +kernel), a_iv_X3_has, by decide⟩, (fun h => absurd h (by decide))⟩
theorem a_c_5_134 : a_okC (5, 134, 1, 2, mX3_greyOf) := ⟨a_ok_X3_greyOf, by decide +kernel, (fun h => absurd h (by decide)), fun _ => ⟨a_mT 407 (by decide +kernel) (by decide +kernel), a_iv_X3_greyOf, by decide⟩, (fun h => absurd h (by decide))⟩
theorem a_c_5_137 : a_okC (5, 137, 0, 1, mX5_isFigure) := ⟨a_ok_X5_isFigure, by decide +kernel, fun _ => ⟨a_mT 412 (by decide +kernel) (by decide +kernel), a_st_X5_isFigure⟩, (fun h => absurd h (by decide)), (fun h => absurd h (by decide))⟩
theorem a_c_5_140 : a_okC (5, 140, 1, 1, mX3_shownFor) := ⟨a_ok_X3_shownFor, by decide +kernel, (fun h => absurd h (by decide)), fun _ => ⟨a_mT 413 (by decide +kernel) (by decide +kernel), a_iv_X3_shownFor, by decide⟩, (fun h => absurd h (by decide))⟩
theorem a_c_5_143 : a_okC (5, 143, 1, 3, mX1_lookAt) := ⟨a_ok_X1_lookAt, by decide +kernel, (fun h => absurd h (by decide)), fun _ => ⟨a_mT 418 (by decide +kernel) (by decide +kernel), a_iv_X1_lookAt, by decide⟩, (fun h => absurd h (by decide))⟩
theorem a_c_5_147 : a_okC (5, 147, 1, 1, mX1_countOf) := ⟨a_ok_X1_countOf, by decide +kernel, (fun h => absurd h (by decide)), fun _ => ⟨a_mT 419 (by decide +kernel) (by decide +kernel), a_iv_X1_countOf, by decide⟩, (fun h => absurd h (by decide))⟩
theorem a_c_5_150 : a_okC (5, 150, 1, 1, mX1_sumOf) := ⟨a_ok_X1_sumOf, by decide +kernel, (fun h => absurd h (by decide)), fun _ => ⟨a_mT 423 (by decide +kernel) (by decide +kernel), a_iv_X1_sumOf, by decide⟩, (fun h => absurd h (by decide))⟩
theorem a_c_5_153 : a_okC (5, 153, 1, 1, mX1_squaresOf) := ⟨a_ok_X1_squaresOf, by decide +kernel, (fun h => absurd h (by decide)), fun _ => ⟨a_mT 427 (by decide +kernel) (by decide +kernel), a_iv_X1_squaresOf, by decide⟩, (fun h => absurd h (by decide))⟩
theorem a_c_5_156 : a_okC (5, 156, 0, 3, mX5_fraction) := ⟨a_ok_X5_fraction, by decide +kernel, fun _ => ⟨a_mT 435 (by decide +kernel) (by decide +kernel), a_st_X5_fraction⟩, (fun h => absurd h (by decide)), (fun h => absurd h (by decide))⟩
theorem a_c_5_160 : a_okC (5, 160, 1, 1, mX1_unevenness) := ⟨a_ok_X1_unevenness, by decide +kernel, (fun h => absurd h (by decide)), fun _ => ⟨a_mT 444 (by decide +kernel) (by decide +kernel), a_iv_X1_unevenness, by decide⟩, (fun h => absurd h (by decide))⟩
theorem a_c_5_163 : a_okC (5, 163, 1, 2, mX1_markOf) := ⟨a_ok_X1_markOf, by decide +kernel, (fun h => absurd h (by decide)), fun _ => ⟨a_mT 452 (by decide +kernel) (by decide +kernel), a_iv_X1_markOf, by decide⟩, (fun h => absurd h (by decide))⟩
theorem a_c_5_166 : a_okC (5, 166, 1, 3, mX3_lyingUnder) := ⟨a_ok_X3_lyingUnder, by decide +kernel, (fun h => absurd h (by decide)), fun _ => ⟨a_mT 457 (by decide +kernel) (by decide +kernel), a_iv_X3_lyingUnder, by decide⟩, (fun h => absurd h (by decide))⟩
theorem a_c_5_170 : a_okC (5, 170, 1, 2, mX1_look) := ⟨a_ok_X1_look, by decide +kernel, (fun h => absurd h (by decide)), fun _ => ⟨a_mT 462 (by decide +kernel) (by decide +kernel), a_iv_X1_look, by decide⟩, (fun h => absurd h (by decide))⟩
theorem a_c_5_174 : a_okC (5, 174, 1, 2, mX1_dotsMarked) := ⟨a_ok_X1_dotsMarked, by decide +kernel, (fun h => absurd h (by decide)), fun _ => ⟨a_mT 463 (by decide +kernel) (by decide +kernel), a_iv_X1_dotsMarked, by decide⟩, (fun h => absurd h (by decide))⟩
theorem a_c_5_177 : a_okC (5, 177, 1, 2, mX3_hangingTogether) := ⟨a_ok_X3_hangingTogether, by decide +kernel, (fun h => absurd h (by decide)), fun _ => ⟨a_mT 464 (by decide +kernel) (by decide +kernel), a_iv_X3_hangingTogether, by decide⟩, (fun h => absurd h (by decide))⟩
theorem a_c_5_180 : a_okC (5, 180, 0, 1, mJ6_bitCount_0f7a4) := ⟨a_ok_J6_bitCount_0f7a4, by decide +kernel, fun _ => ⟨a_mT 472 (by decide +kernel) (by decide +kernel), a_st_J6_bitCount_0f7a4⟩, (fun h => absurd h (by decide)), (fun h => absurd h (by decide))⟩
theorem a_c_5_185 : a_okC (5, 185, 1, 4, mX0_add) := ⟨a_ok_X0_add, by decide +kernel, (fun h => absurd h (by decide)), fun _ => ⟨a_mT 477 (by decide +kernel) (by decide +kernel), a_iv_X0_add, by decide⟩, (fun h => absurd h (by decide))⟩
theorem a_c_5_189 : a_okC (5, 189, 1, 3, mX3_setGrey) := ⟨a_ok_X3_setGrey, by decide +kernel, (fun h => absurd h (by decide)), fun _ => ⟨a_mT 488 (by decide +kernel) (by decide +kernel), a_iv_X3_setGrey, by decide⟩, (fun h => absurd h (by decide))⟩
theorem a_c_5_193 : a_okC (5, 193, 0, 1, mX5_isLight) := ⟨a_ok_X5_isLight, by decide +kernel, fun _ => ⟨a_mT 493 (by decide +kernel) (by decide +kernel), a_st_X5_isLight⟩, (fun h => absurd h (by decide)), (fun h => absurd h (by decide))⟩
theorem a_c_5_196 : a_okC (5, 196, 1, 1, mX3_staysGrey) := ⟨a_ok_X3_staysGrey, by decide +kernel, (fun h => absurd h (by decide)), fun _ => ⟨a_mT 496 (by decide +kernel) (by decide +kernel), a_iv_X3_staysGrey, by decide⟩, (fun h => absurd h (by decide))⟩
theorem a_c_5_199 : a_okC (5, 199, 1, 1, mX3_lighten) := ⟨a_ok_X3_lighten, by decide +kernel, (fun h => absurd h (by decide)), fun _ => ⟨a_mT 500 (by decide +kernel) (by decide +kernel), a_iv_X3_lighten, by decide⟩, (fun h => absurd h (by decide))⟩
theorem a_c_5_203 : a_okC (5, 203, 0, 3, mX5_isRule) := ⟨a_ok_X5_isRule, by decide +kernel, fun _ => ⟨a_mT 508 (by decide +kernel) (by decide +kernel), a_st_X5_isRule⟩, (fun h => absurd h (by decide)), (fun h => absurd h (by decide))⟩
theorem a_c_5_207 : a_okC (5, 207, 1, 3, mX3_setRule) := ⟨a_ok_X3_setRule, by decide +kernel, (fun h => absurd h (by decide)), fun _ => ⟨a_mT 511 (by decide +kernel) (by decide +kernel), a_iv_X3_setRule, by decide⟩, (fun h => absurd h (by decide))⟩
theorem a_c_5_210 : a_okC (5, 210, 1, 2, mX3_setShown) := ⟨a_ok_X3_setShown, by decide +kernel, (fun h => absurd h (by decide)), fun _ => ⟨a_mT 516 (by decide +kernel) (by decide +kernel), a_iv_X3_setShown, by decide⟩, (fun h => absurd h (by decide))⟩
theorem a_c_5_214 : a_okC (5, 214, 0, 2, mX5_isLie) := ⟨a_ok_X5_isLie, by decide +kernel, fun _ => ⟨a_mT 521 (by decide +kernel) (by decide +kernel), a_st_X5_isLie⟩, (fun h => absurd h (by decide)), (fun h => absurd h (by decide))⟩
theorem a_c_5_218 : a_okC (5, 218, 1, 2, mX3_setLie) := ⟨a_ok_X3_setLie, by decide +kernel, (fun h => absurd h (by decide)), fun _ => ⟨a_mT 524 (by decide +kernel) (by decide +kernel), a_iv_X3_setLie, by decide⟩, (fun h => absurd h (by decide))⟩
theorem a_c_5_221 : a_okC (5, 221, 1, 1, mX0_takeBackLast) := ⟨a_ok_X0_takeBackLast, by decide +kernel, (fun h => absurd h (by decide)), fun _ => ⟨a_mT 529 (by decide +kernel) (by decide +kernel), a_iv_X0_takeBackLast, by decide⟩, (fun h => absurd h (by decide))⟩
theorem a_c_5_225 : a_okC (5, 225, 1, 2, mX3_pairs) := ⟨a_ok_X3_pairs, by decide +kernel, (fun h => absurd h (by decide)), fun _ => ⟨a_mT 546 (by decide +kernel) (by decide +kernel), a_iv_X3_pairs, by decide⟩, (fun h => absurd h (by decide))⟩
theorem a_c_5_228 : a_okC (5, 228, 1, 2, mX3_difference) := ⟨a_ok_X3_difference, by decide +kernel, (fun h => absurd h (by decide)), fun _ => ⟨a_mT 550 (by decide +kernel) (by decide +kernel), a_iv_X3_difference, by decide⟩, (fun h => absurd h (by decide))⟩
theorem a_c_5_231 : a_okC (5, 231, 1, 0, mX5_bestLie) := ⟨a_ok_X5_bestLie, by decide +kernel, (fun h => absurd h (by decide)), fun _ => ⟨a_mT 558 (by decide +kernel) (by decide +kernel), a_iv_X5_bestLie, by decide⟩, (fun h => absurd h (by decide))⟩
theorem a_c_5_234 : a_okC (5, 234, 1, 1, mX5_bestWindow) := ⟨a_ok_X5_bestWindow, by decide +kernel, (fun h => absurd h (by decide)), fun _ => ⟨a_mT 562 (by decide +kernel) (by decide +kernel), a_iv_X5_bestWindow, by decide⟩, (fun h => absurd h (by decide))⟩
theorem a_c_5_242 : a_okC (5, 242, 1, 1, mX3_copyFrom) := ⟨a_ok_X3_copyFrom, by decide +kernel, (fun h => absurd h (by decide)), fun _ => ⟨a_mT 575 (by decide +kernel) (by decide +kernel), a_iv_X3_copyFrom, by decide⟩, (fun h => absurd h (by decide))⟩
theorem a_c_5_248 : a_okC (5, 248, 1, 1, mX5_canBe) := ⟨a_ok_X5_canBe, by decide +kernel, (fun h => absurd h (by decide)), fun _ => ⟨a_mT 581 (by decide +kernel) (by decide +kernel), a_iv_X5_canBe, by decide⟩, (fun h => absurd h (by decide))⟩
theorem a_c_5_251 : a_okC (5, 251, 1, 1, mX3_hasRow) := ⟨a_ok_X3_hasRow, by decide +kernel, (fun h => absurd h (by decide)), fun _ => ⟨a_mT 613 (by decide +kernel) (by decide +kernel), a_iv_X3_hasRow, by decide⟩, (fun h => absurd h (by decide))⟩
theorem a_c_5_254 : a_okC (5, 254, 1, 1, mX5_inkWhenCome) := ⟨a_ok_X5_inkWhenCome, by decide +kernel, (fun h => absurd h (by decide)), fun _ => ⟨a_mT 617 (by decide +kernel) (by decide +kernel), a_iv_X5_inkWhenCome, by decide⟩, (fun h => absurd h (by decide))⟩
theorem a_c_5_257 : a_okC (5, 257, 0, 2, mX5_ordersWith) := ⟨a_ok_X5_ordersWith, by decide +kernel, fun _ => ⟨a_mT 625 (by decide +kernel) (by decide +kernel), a_st_X5_ordersWith⟩, (fun h => absurd h (by decide)), (fun h => absurd h (by decide))⟩
theorem a_c_5_260 : a_okC (5, 260, 0, 1, mX5_factorial) := ⟨a_ok_X5_factorial, by decide +kernel, fun _ => ⟨a_mT 628 (by decide +kernel) (by decide +kernel), a_st_X5_factorial⟩, (fun h => absurd h (by decide)), (fun h => absurd h (by decide))⟩
theorem a_c_5_263 : a_okC (5, 263, 1, 0, mX2_isFull) := ⟨a_ok_X2_isFull, by decide +kernel, (fun h => absurd h (by decide)), fun _ => ⟨a_mT 637 (by decide +kernel) (by decide +kernel), a_iv_X2_isFull, by decide⟩, (fun h => absurd h (by decide))⟩
theorem a_c_5_264 : a_okC (5, 264, 1, 2, mX2_add) := ⟨a_ok_X2_add, by decide +kernel, (fun h => absurd h (by decide)), fun _ => ⟨a_mT 641 (by decide +kernel) (by decide +kernel), a_iv_X2_add, by decide⟩, (fun h => absurd h (by decide))⟩
theorem a_c_5_266 : a_okC (5, 266, 1, 0, mX2_clear) := ⟨a_ok_X2_clear, by decide +kernel, (fun h => absurd h (by decide)), fun _ => ⟨a_mT 650 (by decide +kernel) (by decide +kernel), a_iv_X2_clear, by decide⟩, (fun h => absurd h (by decide))⟩
theorem a_c_5_267 : a_okC (5, 267, 1, 1, mX2_agreesWith) := ⟨a_ok_X2_agreesWith, by decide +kernel, (fun h => absurd h (by decide)), fun _ => ⟨a_mT 658 (by decide +kernel) (by decide +kernel), a_iv_X2_agreesWith, by decide⟩, (fun h => absurd h (by decide))⟩
theorem a_c_5_270 : a_okC (5, 270, 0, 2, mX5_windowNumber) := ⟨a_ok_X5_windowNumber, by decide +kernel, fun _ => ⟨a_mT 566 (by decide +kernel) (by decide +kernel), a_st_X5_windowNumber⟩, (fun h => absurd h (by decide)), (fun h => absurd h (by decide))⟩
theorem a_c_5_273 : a_okC (5, 273, 1, 2, mX5_inkWhenBleached) := ⟨a_ok_X5_inkWhenBleached, by decide +kernel, (fun h => absurd h (by decide)), fun _ => ⟨a_mT 666 (by decide +kernel) (by decide +kernel), a_iv_X5_inkWhenBleached, by decide⟩, (fun h => absurd h (by decide))⟩
theorem a_c_5_276 : a_okC (5, 276, 0, 2, mX5_power) := ⟨a_ok_X5_power, by decide +kernel, fun _ => ⟨a_mT 670 (by decide +kernel) (by decide +kernel), a_st_X5_power⟩, (fun h => absurd h (by decide)), (fun h => absurd h (by decide))⟩
theorem a_c_5_283 : a_okC (5, 283, 0, 2, mX5_remainder) := ⟨a_ok_X5_remainder, by decide +kernel, fun _ => ⟨a_mT 683 (by decide +kernel) (by decide +kernel), a_st_X5_remainder⟩, (fun h => absurd h (by decide)), (fun h => absurd h (by decide))⟩
theorem a_c_5_286 : a_okC (5, 286, 0, 1, mX5_isSlot) := ⟨a_ok_X5_isSlot, by decide +kernel, fun _ => ⟨a_mT 690 (by decide +kernel) (by decide +kernel), a_st_X5_isSlot⟩, (fun h => absurd h (by decide)), (fun h => absurd h (by decide))⟩
theorem a_c_5_289 : a_okC (5, 289, 1, 1, mX5_slotAt) := ⟨a_ok_X5_slotAt, by decide +kernel, (fun h => absurd h (by decide)), fun _ => ⟨a_mT 693 (by decide +kernel) (by decide +kernel), a_iv_X5_slotAt, by decide⟩, (fun h => absurd h (by decide))⟩
theorem a_c_5_293 : a_okC (5, 293, 1, 2, mX3_whiten) := ⟨a_ok_X3_whiten, by decide +kernel, (fun h => absurd h (by decide)), fun _ => ⟨a_mT 621 (by decide +kernel) (by decide +kernel), a_iv_X3_whiten, by decide⟩, (fun h => absurd h (by decide))⟩
theorem a_c_5_296 : a_okC (5, 296, 1, 3, mX5_canPaint) := ⟨a_ok_X5_canPaint, by decide +kernel, (fun h => absurd h (by decide)), fun _ => ⟨a_mT 585 (by decide +kernel) (by decide +kernel), a_iv_X5_canPaint, by decide⟩, (fun h => absurd h (by decide))⟩
theorem a_c_5_299 : a_okC (5, 299, 1, 1, mX5_canLighten) := ⟨a_ok_X5_canLighten, by decide +kernel, (fun h => absurd h (by decide)), fun _ => ⟨a_mT 589 (by decide +kernel) (by decide +kernel), a_iv_X5_canLighten, by decide⟩, (fun h => absurd h (by decide))⟩
theorem a_c_5_302 : a_okC (5, 302, 1, 3, mX5_canRule) := ⟨a_ok_X5_canRule, by decide +kernel, (fun h => absurd h (by decide)), fun _ => ⟨a_mT 593 (by decide +kernel) (by decide +kernel), a_iv_X5_canRule, by decide⟩, (fun h => absurd h (by decide))⟩
theorem a_c_5_305 : a_okC (5, 305, 1, 2, mX5_canTable) := ⟨a_ok_X5_canTable, by decide +kernel, (fun h => absurd h (by decide)), fun _ => ⟨a_mT 597 (by decide +kernel) (by decide +kernel), a_iv_X5_canTable, by decide⟩, (fun h => absurd h (by decide))⟩
theorem a_c_5_308 : a_okC (5, 308, 1, 2, mX5_canLay) := ⟨a_ok_X5_canLay, by decide +kernel, (fun h => absurd h (by decide)), fun _ => ⟨a_mT 601 (by decide +kernel) (by decide +kernel), a_iv_X5_canLay, by decide⟩, (fun h => absurd h (by decide))⟩
theorem a_c_5_311 : a_okC (5, 311, 1, 2, mX5_isSoMarked) := ⟨a_ok_X5_isSoMarked, by decide +kernel, (fun h => absurd h (by decide)), fun _ => ⟨a_mT 605 (by decide +kernel) (by decide +kernel), a_iv_X5_isSoMarked, by decide⟩, (fun h => absurd h (by decide))⟩
theorem a_c_5_319 : a_okC (5, 319, 0, 2, mX5_commonDivisor) := ⟨a_ok_X5_commonDivisor, by decide +kernel, fun _ => ⟨a_mT 441 (by decide +kernel) (by decide +kernel), a_st_X5_commonDivisor⟩, (fun h => absurd h (by decide)), (fun h => absurd h (by decide))⟩
theorem a_crL5_ok : ∀ q ∈ a_crL5, a_okC q := List.forall_mem_cons.mpr ⟨a_c_5_65, List.forall_mem_cons.mpr ⟨a_c_5_69, List.forall_mem_cons.mpr ⟨a_c_5_73, List.forall_mem_cons.mpr ⟨a_c_5_77, List.forall_mem_cons.mpr ⟨a_c_5_80, List.forall_mem_cons.mpr ⟨a_c_5_84, List.forall_mem_cons.mpr ⟨a_c_5_87, List.forall_mem_cons.mpr ⟨a_c_5_96, List.forall_mem_cons.mpr ⟨a_c_5_100, List.forall_mem_cons.mpr ⟨a_c_5_118, List.forall_mem_cons.mpr ⟨a_c_5_122, List.forall_mem_cons.mpr ⟨a_c_5_125, List.forall_mem_cons.mpr ⟨a_c_5_126, List.forall_mem_cons.mpr ⟨a_c_5_127, List.forall_mem_cons.mpr ⟨a_c_5_131, List.forall_mem_cons.mpr ⟨a_c_5_134, List.forall_mem_cons.mpr ⟨a_c_5_137, List.forall_mem_cons.mpr ⟨a_c_5_140, List.forall_mem_cons.mpr ⟨a_c_5_143, List.forall_mem_cons.mpr ⟨a_c_5_147, List.forall_mem_cons.mpr ⟨a_c_5_150, List.forall_mem_cons.mpr ⟨a_c_5_153, List.forall_mem_cons.mpr ⟨a_c_5_156, List.forall_mem_cons.mpr ⟨a_c_5_160, List.forall_mem_cons.mpr ⟨a_c_5_163, List.forall_mem_cons.mpr ⟨a_c_5_166, List.forall_mem_cons.mpr ⟨a_c_5_170, List.forall_mem_cons.mpr ⟨a_c_5_174, List.forall_mem_cons.mpr ⟨a_c_5_177, List.forall_mem_cons.mpr ⟨a_c_5_180, List.forall_mem_cons.mpr ⟨a_c_5_185, List.forall_mem_cons.mpr ⟨a_c_5_189, List.forall_mem_cons.mpr ⟨a_c_5_193, List.forall_mem_cons.mpr ⟨a_c_5_196, List.forall_mem_cons.mpr ⟨a_c_5_199, List.forall_mem_cons.mpr ⟨a_c_5_203, List.forall_mem_cons.mpr ⟨a_c_5_207, List.forall_mem_cons.mpr ⟨a_c_5_210, List.forall_mem_cons.mpr ⟨a_c_5_214, List.forall_mem_cons.mpr ⟨a_c_5_218, List.forall_mem_cons.mpr ⟨a_c_5_221, List.forall_mem_cons.mpr ⟨a_c_5_225, List.forall_mem_cons.mpr ⟨a_c_5_228, List.forall_mem_cons.mpr ⟨a_c_5_231, List.forall_mem_cons.mpr ⟨a_c_5_234, List.forall_mem_cons.mpr ⟨a_c_5_242, List.forall_mem_cons.mpr ⟨a_c_5_248, List.forall_mem_cons.mpr ⟨a_c_5_251, List.forall_mem_cons.mpr ⟨a_c_5_254, List.forall_mem_cons.mpr ⟨a_c_5_257, List.forall_mem_cons.mpr ⟨a_c_5_260, List.forall_mem_cons.mpr ⟨a_c_5_263, List.forall_mem_cons.mpr ⟨a_c_5_264, List.forall_mem_cons.mpr ⟨a_c_5_266, List.forall_mem_cons.mpr ⟨a_c_5_267, List.forall_mem_cons.mpr ⟨a_c_5_270, List.forall_mem_cons.mpr ⟨a_c_5_273, List.forall_mem_cons.mpr ⟨a_c_5_276, List.forall_mem_cons.mpr ⟨a_c_5_283, List.forall_mem_cons.mpr ⟨a_c_5_286, List.forall_mem_cons.mpr ⟨a_c_5_289, List.forall_mem_cons.mpr ⟨a_c_5_293, List.forall_mem_cons.mpr ⟨a_c_5_296, List.forall_mem_cons.mpr ⟨a_c_5_299, List.forall_mem_cons.mpr ⟨a_c_5_302, List.forall_mem_cons.mpr ⟨a_c_5_305, List.forall_mem_cons.mpr ⟨a_c_5_308, List.forall_mem_cons.mpr ⟨a_c_5_311, List.forall_mem_cons.mpr ⟨a_c_5_319, fun _ h => absurd h List.not_mem_nil⟩⟩⟩⟩⟩⟩⟩⟩⟩⟩⟩⟩⟩⟩⟩⟩⟩⟩⟩⟩⟩⟩⟩⟩⟩⟩⟩⟩⟩⟩⟩⟩⟩⟩⟩⟩⟩⟩⟩⟩⟩⟩⟩⟩⟩⟩⟩⟩⟩⟩⟩⟩⟩⟩⟩⟩⟩⟩⟩⟩⟩⟩⟩⟩⟩⟩⟩⟩⟩
theorem a_c_6_41 : a_okC (6, 41, 0, 1, mX6_openRule) := ⟨a_ok_X6_openRule, by decide +kernel, fun _ => ⟨a_mT 707 (by decide +kernel) (by decide +kernel), a_st_X6_openRule⟩, (fun h => absurd h (by decide)), (fun h => absurd h (by decide))⟩
theorem a_c_6_49 : a_okC (6, 49, 0, 2, mX6_divisor) := ⟨a_ok_X6_divisor, by decide +kernel, fun _ => ⟨a_mT 863 (by decide +kernel) (by decide +kernel), a_st_X6_divisor⟩, (fun h => absurd h (by decide)), (fun h => absurd h (by decide))⟩
theorem a_c_6_53 : a_okC (6, 53, 0, 1, mX6_dotsOf) := ⟨a_ok_X6_dotsOf, by decide +kernel, fun _ => ⟨a_mT 804 (by decide +kernel) (by decide +kernel), a_st_X6_dotsOf⟩, (fun h => absurd h (by decide)), (fun h => absurd h (by decide))⟩
theorem a_c_6_57 : a_okC (6, 57, 0, 3, mX6_in) := ⟨a_ok_X6_in, by decide +kernel, fun _ => ⟨a_mT 783 (by decide +kernel) (by decide +kernel), a_st_X6_in⟩, (fun h => absurd h (by decide)), (fun h => absurd h (by decide))⟩
theorem a_c_6_68 : a_okC (6, 68, 1, 1, mX6_figureAt) := ⟨a_ok_X6_figureAt, by decide +kernel, (fun h => absurd h (by decide)), fun _ => ⟨a_mT 798 (by decide +kernel) (by decide +kernel), a_iv_X6_figureAt, by decide⟩, (fun h => absurd h (by decide))⟩
theorem a_c_6_74 : a_okC (6, 74, 1, 0, mX6_readLeaf) := ⟨a_ok_X6_readLeaf, by decide +kernel, (fun h => absurd h (by decide)), fun _ => ⟨a_mT 794 (by decide +kernel) (by decide +kernel), a_iv_X6_readLeaf, by decide⟩, (fun h => absurd h (by decide))⟩
theorem a_c_6_90 : a_okC (6, 90, 0, 2, mX6_far) := ⟨a_ok_X6_far, by decide +kernel, fun _ => ⟨a_mT 827 (by decide +kernel) (by decide +kernel), a_st_X6_far⟩, (fun h => absurd h (by decide)), (fun h => absurd h (by decide))⟩
theorem a_c_6_93 : a_okC (6, 93, 1, 3, mX6_layWindow) := ⟨a_ok_X6_layWindow, by decide +kernel, (fun h => absurd h (by decide)), fun _ => ⟨a_mT 823 (by decide +kernel) (by decide +kernel), a_iv_X6_layWindow, by decide⟩, (fun h => absurd h (by decide))⟩
theorem a_c_6_97 : a_okC (6, 97, 1, 2, mX6_isDark) := ⟨a_ok_X6_isDark, by decide +kernel, (fun h => absurd h (by decide)), fun _ => ⟨a_mT 830 (by decide +kernel) (by decide +kernel), a_iv_X6_isDark, by decide⟩, (fun h => absurd h (by decide))⟩
theorem a_c_6_101 : a_okC (6, 101, 0, 4, mX6_underOf) := ⟨a_ok_X6_underOf, by decide +kernel, fun _ => ⟨a_mT 834 (by decide +kernel) (by decide +kernel), a_st_X6_underOf⟩, (fun h => absurd h (by decide)), (fun h => absurd h (by decide))⟩
theorem a_c_6_105 : a_okC (6, 105, 1, 2, mX6_markOf) := ⟨a_ok_X6_markOf, by decide +kernel, (fun h => absurd h (by decide)), fun _ => ⟨a_mT 819 (by decide +kernel) (by decide +kernel), a_iv_X6_markOf, by decide⟩, (fun h => absurd h (by decide))⟩
theorem a_c_6_109 : a_okC (6, 109, 1, 2, mX6_marks) := ⟨a_ok_X6_marks, by decide +kernel, (fun h => absurd h (by decide)), fun _ => ⟨a_mT 815 (by decide +kernel) (by decide +kernel), a_iv_X6_marks, by decide⟩, (fun h => absurd h (by decide))⟩
theorem a_c_6_112 : a_okC (6, 112, 0, 1, mX6_greys) := ⟨a_ok_X6_greys, by decide +kernel, fun _ => ⟨a_mT 837 (by decide +kernel) (by decide +kernel), a_st_X6_greys⟩, (fun h => absurd h (by decide)), (fun h => absurd h (by decide))⟩
theorem a_c_6_118 : a_okC (6, 118, 1, 1, mX6_noDot) := ⟨a_ok_X6_noDot, by decide +kernel, (fun h => absurd h (by decide)), fun _ => ⟨a_mT 844 (by decide +kernel) (by decide +kernel), a_iv_X6_noDot, by decide⟩, (fun h => absurd h (by decide))⟩
theorem a_c_6_122 : a_okC (6, 122, 0, 3, mX6_fraction) := ⟨a_ok_X6_fraction, by decide +kernel, fun _ => ⟨a_mT 860 (by decide +kernel) (by decide +kernel), a_st_X6_fraction⟩, (fun h => absurd h (by decide)), (fun h => absurd h (by decide))⟩
theorem a_c_6_126 : a_okC (6, 126, 0, 2, mX6_has) := ⟨a_ok_X6_has, by decide +kernel, fun _ => ⟨a_mT 883 (by decide +kernel) (by decide +kernel), a_st_X6_has⟩, (fun h => absurd h (by decide)), (fun h => absurd h (by decide))⟩
theorem a_c_6_132 : a_okC (6, 132, 1, 1, mX6_inkOf) := ⟨a_ok_X6_inkOf, by decide +kernel, (fun h => absurd h (by decide)), fun _ => ⟨a_mT 879 (by decide +kernel) (by decide +kernel), a_iv_X6_inkOf, by decide⟩, (fun h => absurd h (by decide))⟩
theorem a_c_6_135 : a_okC (6, 135, 0, 3, mX6_hanging) := ⟨a_ok_X6_hanging, by decide +kernel, fun _ => ⟨a_mT 886 (by decide +kernel) (by decide +kernel), a_st_X6_hanging⟩, (fun h => absurd h (by decide)), (fun h => absurd h (by decide))⟩
theorem a_c_6_139 : a_okC (6, 139, 0, 1, mX6_many) := ⟨a_ok_X6_many, by decide +kernel, fun _ => ⟨a_mT 889 (by decide +kernel) (by decide +kernel), a_st_X6_many⟩, (fun h => absurd h (by decide)), (fun h => absurd h (by decide))⟩
theorem a_c_6_142 : a_okC (6, 142, 1, 0, mX6_note) := ⟨a_ok_X6_note, by decide +kernel, (fun h => absurd h (by decide)), fun _ => ⟨a_mT 896 (by decide +kernel) (by decide +kernel), a_iv_X6_note, by decide⟩, (fun h => absurd h (by decide))⟩
theorem a_c_6_147 : a_okC (6, 147, 0, 2, mX6_canLight) := ⟨a_ok_X6_canLight, by decide +kernel, fun _ => ⟨a_mT 905 (by decide +kernel) (by decide +kernel), a_st_X6_canLight⟩, (fun h => absurd h (by decide)), (fun h => absurd h (by decide))⟩
theorem a_c_6_150 : a_okC (6, 150, 0, 2, mX6_goLight) := ⟨a_ok_X6_goLight, by decide +kernel, fun _ => ⟨a_mT 908 (by decide +kernel) (by decide +kernel), a_st_X6_goLight⟩, (fun h => absurd h (by decide)), (fun h => absurd h (by decide))⟩
theorem a_c_6_156 : a_okC (6, 156, 0, 3, mX6_isRule) := ⟨a_ok_X6_isRule, by decide +kernel, fun _ => ⟨a_mT 915 (by decide +kernel) (by decide +kernel), a_st_X6_isRule⟩, (fun h => absurd h (by decide)), (fun h => absurd h (by decide))⟩
theorem a_c_6_160 : a_okC (6, 160, 0, 4, mX6_goRule) := ⟨a_ok_X6_goRule, by decide +kernel, fun _ => ⟨a_mT 919 (by decide +kernel) (by decide +kernel), a_st_X6_goRule⟩, (fun h => absurd h (by decide)), (fun h => absurd h (by decide))⟩
theorem a_c_6_166 : a_okC (6, 166, 0, 2, mX6_isLie) := ⟨a_ok_X6_isLie, by decide +kernel, fun _ => ⟨a_mT 930 (by decide +kernel) (by decide +kernel), a_st_X6_isLie⟩, (fun h => absurd h (by decide)), (fun h => absurd h (by decide))⟩
theorem a_c_6_175 : a_okC (6, 175, 1, 2, mX6_layFit) := ⟨a_ok_X6_layFit, by decide +kernel, (fun h => absurd h (by decide)), fun _ => ⟨a_mT 942 (by decide +kernel) (by decide +kernel), a_iv_X6_layFit, by decide⟩, (fun h => absurd h (by decide))⟩
theorem a_c_6_179 : a_okC (6, 179, 1, 0, mX6_begin) := ⟨a_ok_X6_begin, by decide +kernel, (fun h => absurd h (by decide)), fun _ => ⟨a_mT 962 (by decide +kernel) (by decide +kernel), a_iv_X6_begin, by decide⟩, (fun h => absurd h (by decide))⟩
theorem a_c_6_182 : a_okC (6, 182, 1, 1, mX6_inkBy) := ⟨a_ok_X6_inkBy, by decide +kernel, (fun h => absurd h (by decide)), fun _ => ⟨a_mT 958 (by decide +kernel) (by decide +kernel), a_iv_X6_inkBy, by decide⟩, (fun h => absurd h (by decide))⟩
theorem a_c_6_185 : a_okC (6, 185, 1, 0, mX6_bestLie) := ⟨a_ok_X6_bestLie, by decide +kernel, (fun h => absurd h (by decide)), fun _ => ⟨a_mT 950 (by decide +kernel) (by decide +kernel), a_iv_X6_bestLie, by decide⟩, (fun h => absurd h (by decide))⟩
theorem a_c_6_188 : a_okC (6, 188, 1, 1, mX6_bestRule) := ⟨a_ok_X6_bestRule, by decide +kernel, (fun h => absurd h (by decide)), fun _ => ⟨a_mT 954 (by decide +kernel) (by decide +kernel), a_iv_X6_bestRule, by decide⟩, (fun h => absurd h (by decide))⟩
theorem a_c_6_192 : a_okC (6, 192, 1, 3, mX6_puts) := ⟨a_ok_X6_puts, by decide +kernel, (fun h => absurd h (by decide)), fun _ => ⟨a_mT 979 (by decide +kernel) (by decide +kernel), a_iv_X6_puts, by decide⟩, (fun h => absurd h (by decide))⟩
theorem a_c_6_196 : a_okC (6, 196, 1, 1, mX6_lights) := ⟨a_ok_X6_lights, by decide +kernel, (fun h => absurd h (by decide)), fun _ => ⟨a_mT 983 (by decide +kernel) (by decide +kernel), a_iv_X6_lights, by decide⟩, (fun h => absurd h (by decide))⟩
theorem a_c_6_199 : a_okC (6, 199, 1, 3, mX6_rules) := ⟨a_ok_X6_rules, by decide +kernel, (fun h => absurd h (by decide)), fun _ => ⟨a_mT 987 (by decide +kernel) (by decide +kernel), a_iv_X6_rules, by decide⟩, (fun h => absurd h (by decide))⟩
theorem a_c_6_202 : a_okC (6, 202, 1, 2, mX6_lies) := ⟨a_ok_X6_lies, by decide +kernel, (fun h => absurd h (by decide)), fun _ => ⟨a_mT 991 (by decide +kernel) (by decide +kernel), a_iv_X6_lies, by decide⟩, (fun h => absurd h (by decide))⟩
theorem a_c_6_209 : a_okC (6, 209, 0, 2, mX6_longPower) := ⟨a_ok_X6_longPower, by decide +kernel, fun _ => ⟨a_mT 972 (by decide +kernel) (by decide +kernel), a_st_X6_longPower⟩, (fun h => absurd h (by decide)), (fun h => absurd h (by decide))⟩
theorem a_c_6_213 : a_okC (6, 213, 1, 1, mX6_does) := ⟨a_ok_X6_does, by decide +kernel, (fun h => absurd h (by decide)), fun _ => ⟨a_mT 975 (by decide +kernel) (by decide +kernel), a_iv_X6_does, by decide⟩, (fun h => absurd h (by decide))⟩
theorem a_c_6_216 : a_okC (6, 216, 1, 1, mX6_inkOfRows) := ⟨a_ok_X6_inkOfRows, by decide +kernel, (fun h => absurd h (by decide)), fun _ => ⟨a_mT 999 (by decide +kernel) (by decide +kernel), a_iv_X6_inkOfRows, by decide⟩, (fun h => absurd h (by decide))⟩
theorem a_c_6_219 : a_okC (6, 219, 0, 2, mX6_orders) := ⟨a_ok_X6_orders, by decide +kernel, fun _ => ⟨a_mT 1003 (by decide +kernel) (by decide +kernel), a_st_X6_orders⟩, (fun h => absurd h (by decide)), (fun h => absurd h (by decide))⟩
theorem a_c_6_230 : a_okC (6, 230, 0, 2, mX6_power) := ⟨a_ok_X6_power, by decide +kernel, fun _ => ⟨a_mT 1023 (by decide +kernel) (by decide +kernel), a_st_X6_power⟩, (fun h => absurd h (by decide)), (fun h => absurd h (by decide))⟩
theorem a_crL6_ok : ∀ q ∈ a_crL6, a_okC q := List.forall_mem_cons.mpr ⟨a_c_6_41, List.forall_mem_cons.mpr ⟨a_c_6_49, List.forall_mem_cons.mpr ⟨a_c_6_53, List.forall_mem_cons.mpr ⟨a_c_6_57, List.forall_mem_cons.mpr ⟨a_c_6_68, List.forall_mem_cons.mpr ⟨a_c_6_74, List.forall_mem_cons.mpr ⟨a_c_6_90, List.forall_mem_cons.mpr ⟨a_c_6_93, List.forall_mem_cons.mpr ⟨a_c_6_97, List.forall_mem_cons.mpr ⟨a_c_6_101, List.forall_mem_cons.mpr ⟨a_c_6_105, List.forall_mem_cons.mpr ⟨a_c_6_109, List.forall_mem_cons.mpr ⟨a_c_6_112, List.forall_mem_cons.mpr ⟨a_c_6_118, List.forall_mem_cons.mpr ⟨a_c_6_122, List.forall_mem_cons.mpr ⟨a_c_6_126, List.forall_mem_cons.mpr ⟨a_c_6_132, List.forall_mem_cons.mpr ⟨a_c_6_135, List.forall_mem_cons.mpr ⟨a_c_6_139, List.forall_mem_cons.mpr ⟨a_c_6_142, List.forall_mem_cons.mpr ⟨a_c_6_147, List.forall_mem_cons.mpr ⟨a_c_6_150, List.forall_mem_cons.mpr ⟨a_c_6_156, List.forall_mem_cons.mpr ⟨a_c_6_160, List.forall_mem_cons.mpr ⟨a_c_6_166, List.forall_mem_cons.mpr ⟨a_c_6_175, List.forall_mem_cons.mpr ⟨a_c_6_179, List.forall_mem_cons.mpr ⟨a_c_6_182, List.forall_mem_cons.mpr ⟨a_c_6_185, List.forall_mem_cons.mpr ⟨a_c_6_188, List.forall_mem_cons.mpr ⟨a_c_6_192, List.forall_mem_cons.mpr ⟨a_c_6_196, List.forall_mem_cons.mpr ⟨a_c_6_199, List.forall_mem_cons.mpr ⟨a_c_6_202, List.forall_mem_cons.mpr ⟨a_c_6_209, List.forall_mem_cons.mpr ⟨a_c_6_213, List.forall_mem_cons.mpr ⟨a_c_6_216, List.forall_mem_cons.mpr ⟨a_c_6_219, List.forall_mem_cons.mpr ⟨a_c_6_230, fun _ h => absurd h List.not_mem_nil⟩⟩⟩⟩⟩⟩⟩⟩⟩⟩⟩⟩⟩⟩⟩⟩⟩⟩⟩⟩⟩⟩⟩⟩⟩⟩⟩⟩⟩⟩⟩⟩⟩⟩⟩⟩⟩⟩⟩
theorem a_c_9_13 : a_okC (9, 13, 1, 1, mX5_write) := ⟨a_ok_X5_write, by decide +kernel, (fun h => absurd h (by decide)), fun _ => ⟨a_mT 221 (by decide +kernel) (by decide +kernel), a_iv_X5_write, by decide⟩, (fun h => absurd h (by decide))⟩
theorem a_c_9_17 : a_okC (9, 17, 1, 1, mX6_write) := ⟨a_ok_X6_write, by decide +kernel, (fun h => absurd h (by decide)), fun _ => ⟨a_mT 778 (by decide +kernel) (by decide +kernel), a_iv_X6_write, by decide⟩, (fun h => absurd h (by decide))⟩
theorem a_c_9_18 : a_okC (9, 18, 1, 0, mX5_wipe) := ⟨a_ok_X5_wipe, by decide +kernel, (fun h => absurd h (by decide)), fun _ => ⟨a_mT 234 (by decide +kernel) (by decide +kernel), a_iv_X5_wipe, by decide⟩, (fun h => absurd h (by decide))⟩
theorem a_c_9_22 : a_okC (9, 22, 1, 0, mX6_wipe) := ⟨a_ok_X6_wipe, by decide +kernel, (fun h => absurd h (by decide)), fun _ => ⟨a_mT 786 (by decide +kernel) (by decide +kernel), a_iv_X6_wipe, by decide⟩, (fun h => absurd h (by decide))⟩
theorem a_c_9_23 : a_okC (9, 23, 1, 0, mX5_fault) := ⟨a_ok_X5_fault, by decide +kernel, (fun h => absurd h (by decide)), fun _ => ⟨a_mT 242 (by decide +kernel) (by decide +kernel), a_iv_X5_fault, by decide⟩, (fun h => absurd h (by decide))⟩
theorem a_c_9_26 : a_okC (9, 26, 1, 0, mX6_fault) := ⟨a_ok_X6_fault, by decide +kernel, (fun h => absurd h (by decide)), fun _ => ⟨a_mT 790 (by decide +kernel) (by decide +kernel), a_iv_X6_fault, by decide⟩, (fun h => absurd h (by decide))⟩
theorem a_c_9_27 : a_okC (9, 27, 1, 0, mX5_leaf) := ⟨a_ok_X5_leaf, by decide +kernel, (fun h => absurd h (by decide)), fun _ => ⟨a_mT 272 (by decide +kernel) (by decide +kernel), a_iv_X5_leaf, by decide⟩, (fun h => absurd h (by decide))⟩
theorem a_c_9_30 : a_okC (9, 30, 1, 0, mX6_leaf) := ⟨a_ok_X6_leaf, by decide +kernel, (fun h => absurd h (by decide)), fun _ => ⟨a_mT 807 (by decide +kernel) (by decide +kernel), a_iv_X6_leaf, by decide⟩, (fun h => absurd h (by decide))⟩
theorem a_c_9_31 : a_okC (9, 31, 1, 1, mX5_about) := ⟨a_ok_X5_about, by decide +kernel, (fun h => absurd h (by decide)), fun _ => ⟨a_mT 313 (by decide +kernel) (by decide +kernel), a_iv_X5_about, by decide⟩, (fun h => absurd h (by decide))⟩
theorem a_c_9_34 : a_okC (9, 34, 1, 1, mX6_about) := ⟨a_ok_X6_about, by decide +kernel, (fun h => absurd h (by decide)), fun _ => ⟨a_mT 811 (by decide +kernel) (by decide +kernel), a_iv_X6_about, by decide⟩, (fun h => absurd h (by decide))⟩
theorem a_c_9_35 : a_okC (9, 35, 1, 2, mX5_grey) := ⟨a_ok_X5_grey, by decide +kernel, (fun h => absurd h (by decide)), fun _ => ⟨a_mT 399 (by decide +kernel) (by decide +kernel), a_iv_X5_grey, by decide⟩, (fun h => absurd h (by decide))⟩
theorem a_c_9_39 : a_okC (9, 39, 1, 2, mX6_grey) := ⟨a_ok_X6_grey, by decide +kernel, (fun h => absurd h (by decide)), fun _ => ⟨a_mT 840 (by decide +kernel) (by decide +kernel), a_iv_X6_grey, by decide⟩, (fun h => absurd h (by decide))⟩
theorem a_c_9_40 : a_okC (9, 40, 1, 1, mX5_shows) := ⟨a_ok_X5_shows, by decide +kernel, (fun h => absurd h (by decide)), fun _ => ⟨a_mT 408 (by decide +kernel) (by decide +kernel), a_iv_X5_shows, by decide⟩, (fun h => absurd h (by decide))⟩
theorem a_c_9_43 : a_okC (9, 43, 1, 1, mX6_shows) := ⟨a_ok_X6_shows, by decide +kernel, (fun h => absurd h (by decide)), fun _ => ⟨a_mT 848 (by decide +kernel) (by decide +kernel), a_iv_X6_shows, by decide⟩, (fun h => absurd h (by decide))⟩
theorem a_c_9_44 : a_okC (9, 44, 1, 2, mX5_window) := ⟨a_ok_X5_window, by decide +kernel, (fun h => absurd h (by decide)), fun _ => ⟨a_mT 414 (by decide +kernel) (by decide +kernel), a_iv_X5_window, by decide⟩, (fun h => absurd h (by decide))⟩
theorem a_c_9_47 : a_okC (9, 47, 1, 2, mX6_window) := ⟨a_ok_X6_window, by decide +kernel, (fun h => absurd h (by decide)), fun _ => ⟨a_mT 852 (by decide +kernel) (by decide +kernel), a_iv_X6_window, by decide⟩, (fun h => absurd h (by decide))⟩
theorem a_c_9_48 : a_okC (9, 48, 1, 3, mX5_spread) := ⟨a_ok_X5_spread, by decide +kernel, (fun h => absurd h (by decide)), fun _ => ⟨a_mT 431 (by decide +kernel) (by decide +kernel), a_iv_X5_spread, by decide⟩, (fun h => absurd h (by decide))⟩
theorem a_c_9_52 : a_okC (9, 52, 1, 3, mX6_spread) := ⟨a_ok_X6_spread, by decide +kernel, (fun h => absurd h (by decide)), fun _ => ⟨a_mT 856 (by decide +kernel) (by decide +kernel), a_iv_X6_spread, by decide⟩, (fun h => absurd h (by decide))⟩
theorem a_c_9_53 : a_okC (9, 53, 1, 1, mX5_mark) := ⟨a_ok_X5_mark, by decide +kernel, (fun h => absurd h (by decide)), fun _ => ⟨a_mT 448 (by decide +kernel) (by decide +kernel), a_iv_X5_mark, by decide⟩, (fun h => absurd h (by decide))⟩
theorem a_c_9_56 : a_okC (9, 56, 1, 1, mX6_mark) := ⟨a_ok_X6_mark, by decide +kernel, (fun h => absurd h (by decide)), fun _ => ⟨a_mT 866 (by decide +kernel) (by decide +kernel), a_iv_X6_mark, by decide⟩, (fun h => absurd h (by decide))⟩
theorem a_c_9_57 : a_okC (9, 57, 1, 1, mX5_under) := ⟨a_ok_X5_under, by decide +kernel, (fun h => absurd h (by decide)), fun _ => ⟨a_mT 453 (by decide +kernel) (by decide +kernel), a_iv_X5_under, by decide⟩, (fun h => absurd h (by decide))⟩
theorem a_c_9_60 : a_okC (9, 60, 1, 1, mX6_under) := ⟨a_ok_X6_under, by decide +kernel, (fun h => absurd h (by decide)), fun _ => ⟨a_mT 870 (by decide +kernel) (by decide +kernel), a_iv_X6_under, by decide⟩, (fun h => absurd h (by decide))⟩
theorem a_c_9_61 : a_okC (9, 61, 1, 1, mX5_cleaned) := ⟨a_ok_X5_cleaned, by decide +kernel, (fun h => absurd h (by decide)), fun _ => ⟨a_mT 458 (by decide +kernel) (by decide +kernel), a_iv_X5_cleaned, by decide⟩, (fun h => absurd h (by decide))⟩
theorem a_c_9_64 : a_okC (9, 64, 1, 1, mX6_cleaned) := ⟨a_ok_X6_cleaned, by decide +kernel, (fun h => absurd h (by decide)), fun _ => ⟨a_mT 874 (by decide +kernel) (by decide +kernel), a_iv_X6_cleaned, by decide⟩, (fun h => absurd h (by decide))⟩
theorem a_c_9_65 : a_okC (9, 65, 1, 3, mX5_paint) := ⟨a_ok_X5_paint, by decide +kernel, (fun h => absurd h (by decide)), fun _ => ⟨a_mT 473 (by decide +kernel) (by decide +kernel), a_iv_X5_paint, by decide⟩, (fun h => absurd h (by decide))⟩
theorem a_c_9_69 : a_okC (9, 69, 1, 3, mX6_paint) := ⟨a_ok_X6_paint, by decide +kernel, (fun h => absurd h (by decide)), fun _ => ⟨a_mT 892 (by decide +kernel) (by decide +kernel), a_iv_X6_paint, by decide⟩, (fun h => absurd h (by decide))⟩
theorem a_c_9_70 : a_okC (9, 70, 1, 1, mX5_light) := ⟨a_ok_X5_light, by decide +kernel, (fun h => absurd h (by decide)), fun _ => ⟨a_mT 489 (by decide +kernel) (by decide +kernel), a_iv_X5_light, by decide⟩, (fun h => absurd h (by decide))⟩
theorem a_c_9_73 : a_okC (9, 73, 1, 1, mX6_light) := ⟨a_ok_X6_light, by decide +kernel, (fun h => absurd h (by decide)), fun _ => ⟨a_mT 900 (by decide +kernel) (by decide +kernel), a_iv_X6_light, by decide⟩, (fun h => absurd h (by decide))⟩
theorem a_c_9_74 : a_okC (9, 74, 1, 3, mX5_rule) := ⟨a_ok_X5_rule, by decide +kernel, (fun h => absurd h (by decide)), fun _ => ⟨a_mT 504 (by decide +kernel) (by decide +kernel), a_iv_X5_rule, by decide⟩, (fun h => absurd h (by decide))⟩
theorem a_c_9_77 : a_okC (9, 77, 1, 3, mX6_rule) := ⟨a_ok_X6_rule, by decide +kernel, (fun h => absurd h (by decide)), fun _ => ⟨a_mT 911 (by decide +kernel) (by decide +kernel), a_iv_X6_rule, by decide⟩, (fun h => absurd h (by decide))⟩
theorem a_c_9_78 : a_okC (9, 78, 1, 2, mX5_table) := ⟨a_ok_X5_table, by decide +kernel, (fun h => absurd h (by decide)), fun _ => ⟨a_mT 512 (by decide +kernel) (by decide +kernel), a_iv_X5_table, by decide⟩, (fun h => absurd h (by decide))⟩
theorem a_c_9_81 : a_okC (9, 81, 1, 2, mX6_table) := ⟨a_ok_X6_table, by decide +kernel, (fun h => absurd h (by decide)), fun _ => ⟨a_mT 922 (by decide +kernel) (by decide +kernel), a_iv_X6_table, by decide⟩, (fun h => absurd h (by decide))⟩
theorem a_c_9_82 : a_okC (9, 82, 1, 2, mX5_lay) := ⟨a_ok_X5_lay, by decide +kernel, (fun h => absurd h (by decide)), fun _ => ⟨a_mT 517 (by decide +kernel) (by decide +kernel), a_iv_X5_lay, by decide⟩, (fun h => absurd h (by decide))⟩
theorem a_c_9_85 : a_okC (9, 85, 1, 2, mX6_lay) := ⟨a_ok_X6_lay, by decide +kernel, (fun h => absurd h (by decide)), fun _ => ⟨a_mT 926 (by decide +kernel) (by decide +kernel), a_iv_X6_lay, by decide⟩, (fun h => absurd h (by decide))⟩
theorem a_c_9_86 : a_okC (9, 86, 1, 0, mX5_undo) := ⟨a_ok_X5_undo, by decide +kernel, (fun h => absurd h (by decide)), fun _ => ⟨a_mT 525 (by decide +kernel) (by decide +kernel), a_iv_X5_undo, by decide⟩, (fun h => absurd h (by decide))⟩
theorem a_c_9_89 : a_okC (9, 89, 1, 0, mX6_undo) := ⟨a_ok_X6_undo, by decide +kernel, (fun h => absurd h (by decide)), fun _ => ⟨a_mT 934 (by decide +kernel) (by decide +kernel), a_iv_X6_undo, by decide⟩, (fun h => absurd h (by decide))⟩
theorem a_c_9_90 : a_okC (9, 90, 1, 3, mX5_fit) := ⟨a_ok_X5_fit, by decide +kernel, (fun h => absurd h (by decide)), fun _ => ⟨a_mT 542 (by decide +kernel) (by decide +kernel), a_iv_X5_fit, by decide⟩, (fun h => absurd h (by decide))⟩
theorem a_c_9_93 : a_okC (9, 93, 1, 3, mX6_fit) := ⟨a_ok_X6_fit, by decide +kernel, (fun h => absurd h (by decide)), fun _ => ⟨a_mT 938 (by decide +kernel) (by decide +kernel), a_iv_X6_fit, by decide⟩, (fun h => absurd h (by decide))⟩
theorem a_c_9_94 : a_okC (9, 94, 1, 1, mX5_best) := ⟨a_ok_X5_best, by decide +kernel, (fun h => absurd h (by decide)), fun _ => ⟨a_mT 554 (by decide +kernel) (by decide +kernel), a_iv_X5_best, by decide⟩, (fun h => absurd h (by decide))⟩
theorem a_c_9_97 : a_okC (9, 97, 1, 1, mX6_best) := ⟨a_ok_X6_best, by decide +kernel, (fun h => absurd h (by decide)), fun _ => ⟨a_mT 946 (by decide +kernel) (by decide +kernel), a_iv_X6_best, by decide⟩, (fun h => absurd h (by decide))⟩
theorem a_c_9_100 : a_okC (9, 100, 1, 2, mX5_judge) := ⟨a_ok_X5_judge, by decide +kernel, (fun h => absurd h (by decide)), fun _ => ⟨a_mT 569 (by decide +kernel) (by decide +kernel), a_iv_X5_judge, by decide⟩, (fun h => absurd h (by decide))⟩
theorem a_c_9_104 : a_okC (9, 104, 1, 2, mX6_judge) := ⟨a_ok_X6_judge, by decide +kernel, (fun h => absurd h (by decide)), fun _ => ⟨a_mT 966 (by decide +kernel) (by decide +kernel), a_iv_X6_judge, by decide⟩, (fun h => absurd h (by decide))⟩
theorem a_c_9_105 : a_okC (9, 105, 1, 2, mX5_share) := ⟨a_ok_X5_share, by decide +kernel, (fun h => absurd h (by decide)), fun _ => ⟨a_mT 609 (by decide +kernel) (by decide +kernel), a_iv_X5_share, by decide⟩, (fun h => absurd h (by decide))⟩
theorem a_c_9_109 : a_okC (9, 109, 1, 2, mX6_share) := ⟨a_ok_X6_share, by decide +kernel, (fun h => absurd h (by decide)), fun _ => ⟨a_mT 995 (by decide +kernel) (by decide +kernel), a_iv_X6_share, by decide⟩, (fun h => absurd h (by decide))⟩
theorem a_c_9_110 : a_okC (9, 110, 1, 2, mX5_see) := ⟨a_ok_X5_see, by decide +kernel, (fun h => absurd h (by decide)), fun _ => ⟨a_mT 633 (by decide +kernel) (by decide +kernel), a_iv_X5_see, by decide⟩, (fun h => absurd h (by decide))⟩
theorem a_c_9_113 : a_okC (9, 113, 1, 2, mX6_see) := ⟨a_ok_X6_see, by decide +kernel, (fun h => absurd h (by decide)), fun _ => ⟨a_mT 1006 (by decide +kernel) (by decide +kernel), a_iv_X6_see, by decide⟩, (fun h => absurd h (by decide))⟩
theorem a_c_9_114 : a_okC (9, 114, 1, 0, mX5_unsee) := ⟨a_ok_X5_unsee, by decide +kernel, (fun h => absurd h (by decide)), fun _ => ⟨a_mT 646 (by decide +kernel) (by decide +kernel), a_iv_X5_unsee, by decide⟩, (fun h => absurd h (by decide))⟩
theorem a_c_9_117 : a_okC (9, 117, 1, 0, mX6_unsee) := ⟨a_ok_X6_unsee, by decide +kernel, (fun h => absurd h (by decide)), fun _ => ⟨a_mT 1010 (by decide +kernel) (by decide +kernel), a_iv_X6_unsee, by decide⟩, (fun h => absurd h (by decide))⟩
theorem a_c_9_118 : a_okC (9, 118, 1, 1, mX5_ways) := ⟨a_ok_X5_ways, by decide +kernel, (fun h => absurd h (by decide)), fun _ => ⟨a_mT 654 (by decide +kernel) (by decide +kernel), a_iv_X5_ways, by decide⟩, (fun h => absurd h (by decide))⟩
theorem a_c_9_121 : a_okC (9, 121, 1, 1, mX6_ways) := ⟨a_ok_X6_ways, by decide +kernel, (fun h => absurd h (by decide)), fun _ => ⟨a_mT 1014 (by decide +kernel) (by decide +kernel), a_iv_X6_ways, by decide⟩, (fun h => absurd h (by decide))⟩
theorem a_c_9_122 : a_okC (9, 122, 1, 4, mX5_bleached) := ⟨a_ok_X5_bleached, by decide +kernel, (fun h => absurd h (by decide)), fun _ => ⟨a_mT 662 (by decide +kernel) (by decide +kernel), a_iv_X5_bleached, by decide⟩, (fun h => absurd h (by decide))⟩
theorem a_c_9_126 : a_okC (9, 126, 1, 4, mX6_bleached) := ⟨a_ok_X6_bleached, by decide +kernel, (fun h => absurd h (by decide)), fun _ => ⟨a_mT 1018 (by decide +kernel) (by decide +kernel), a_iv_X6_bleached, by decide⟩, (fun h => absurd h (by decide))⟩
theorem a_c_9_127 : a_okC (9, 127, 1, 1, mX5_seed) := ⟨a_ok_X5_seed, by decide +kernel, (fun h => absurd h (by decide)), fun _ => ⟨a_mT 673 (by decide +kernel) (by decide +kernel), a_iv_X5_seed, by decide⟩, (fun h => absurd h (by decide))⟩
theorem a_c_9_131 : a_okC (9, 131, 1, 1, mX6_seed) := ⟨a_ok_X6_seed, by decide +kernel, (fun h => absurd h (by decide)), fun _ => ⟨a_mT 1026 (by decide +kernel) (by decide +kernel), a_iv_X6_seed, by decide⟩, (fun h => absurd h (by decide))⟩
theorem a_c_9_132 : a_okC (9, 132, 1, 1, mX5_drawn) := ⟨a_ok_X5_drawn, by decide +kernel, (fun h => absurd h (by decide)), fun _ => ⟨a_mT 677 (by decide +kernel) (by decide +kernel), a_iv_X5_drawn, by decide⟩, (fun h => absurd h (by decide))⟩
theorem a_c_9_135 : a_okC (9, 135, 1, 1, mX6_drawn) := ⟨a_ok_X6_drawn, by decide +kernel, (fun h => absurd h (by decide)), fun _ => ⟨a_mT 1030 (by decide +kernel) (by decide +kernel), a_iv_X6_drawn, by decide⟩, (fun h => absurd h (by decide))⟩
theorem a_c_9_136 : a_okC (9, 136, 1, 1, mX5_keep) := ⟨a_ok_X5_keep, by decide +kernel, (fun h => absurd h (by decide)), fun _ => ⟨a_mT 686 (by decide +kernel) (by decide +kernel), a_iv_X5_keep, by decide⟩, (fun h => absurd h (by decide))⟩
theorem a_c_9_139 : a_okC (9, 139, 1, 1, mX6_keep) := ⟨a_ok_X6_keep, by decide +kernel, (fun h => absurd h (by decide)), fun _ => ⟨a_mT 1037 (by decide +kernel) (by decide +kernel), a_iv_X6_keep, by decide⟩, (fun h => absurd h (by decide))⟩
theorem a_c_9_140 : a_okC (9, 140, 1, 1, mX5_again) := ⟨a_ok_X5_again, by decide +kernel, (fun h => absurd h (by decide)), fun _ => ⟨a_mT 697 (by decide +kernel) (by decide +kernel), a_iv_X5_again, by decide⟩, (fun h => absurd h (by decide))⟩
theorem a_c_9_143 : a_okC (9, 143, 1, 1, mX6_again) := ⟨a_ok_X6_again, by decide +kernel, (fun h => absurd h (by decide)), fun _ => ⟨a_mT 1041 (by decide +kernel) (by decide +kernel), a_iv_X6_again, by decide⟩, (fun h => absurd h (by decide))⟩
theorem a_crL9_ok : ∀ q ∈ a_crL9, a_okC q := List.forall_mem_cons.mpr ⟨a_c_9_13, List.forall_mem_cons.mpr ⟨a_c_9_17, List.forall_mem_cons.mpr ⟨a_c_9_18, List.forall_mem_cons.mpr ⟨a_c_9_22, List.forall_mem_cons.mpr ⟨a_c_9_23, List.forall_mem_cons.mpr ⟨a_c_9_26, List.forall_mem_cons.mpr ⟨a_c_9_27, List.forall_mem_cons.mpr ⟨a_c_9_30, List.forall_mem_cons.mpr ⟨a_c_9_31, List.forall_mem_cons.mpr ⟨a_c_9_34, List.forall_mem_cons.mpr ⟨a_c_9_35, List.forall_mem_cons.mpr ⟨a_c_9_39, List.forall_mem_cons.mpr ⟨a_c_9_40, List.forall_mem_cons.mpr ⟨a_c_9_43, List.forall_mem_cons.mpr ⟨a_c_9_44, List.forall_mem_cons.mpr ⟨a_c_9_47, List.forall_mem_cons.mpr ⟨a_c_9_48, List.forall_mem_cons.mpr ⟨a_c_9_52, List.forall_mem_cons.mpr ⟨a_c_9_53, List.forall_mem_cons.mpr ⟨a_c_9_56, List.forall_mem_cons.mpr ⟨a_c_9_57, List.forall_mem_cons.mpr ⟨a_c_9_60, List.forall_mem_cons.mpr ⟨a_c_9_61, List.forall_mem_cons.mpr ⟨a_c_9_64, List.forall_mem_cons.mpr ⟨a_c_9_65, List.forall_mem_cons.mpr ⟨a_c_9_69, List.forall_mem_cons.mpr ⟨a_c_9_70, List.forall_mem_cons.mpr ⟨a_c_9_73, List.forall_mem_cons.mpr ⟨a_c_9_74, List.forall_mem_cons.mpr ⟨a_c_9_77, List.forall_mem_cons.mpr ⟨a_c_9_78, List.forall_mem_cons.mpr ⟨a_c_9_81, List.forall_mem_cons.mpr ⟨a_c_9_82, List.forall_mem_cons.mpr ⟨a_c_9_85, List.forall_mem_cons.mpr ⟨a_c_9_86, List.forall_mem_cons.mpr ⟨a_c_9_89, List.forall_mem_cons.mpr ⟨a_c_9_90, List.forall_mem_cons.mpr ⟨a_c_9_93, List.forall_mem_cons.mpr ⟨a_c_9_94, List.forall_mem_cons.mpr ⟨a_c_9_97, List.forall_mem_cons.mpr ⟨a_c_9_100, List.forall_mem_cons.mpr ⟨a_c_9_104, List.forall_mem_cons.mpr ⟨a_c_9_105, List.forall_mem_cons.mpr ⟨a_c_9_109, List.forall_mem_cons.mpr ⟨a_c_9_110, List.forall_mem_cons.mpr ⟨a_c_9_113, List.forall_mem_cons.mpr ⟨a_c_9_114, List.forall_mem_cons.mpr ⟨a_c_9_117, List.forall_mem_cons.mpr ⟨a_c_9_118, List.forall_mem_cons.mpr ⟨a_c_9_121, List.forall_mem_cons.mpr ⟨a_c_9_122, List.forall_mem_cons.mpr ⟨a_c_9_126, List.forall_mem_cons.mpr ⟨a_c_9_127, List.forall_mem_cons.mpr ⟨a_c_9_131, List.forall_mem_cons.mpr ⟨a_c_9_132, List.forall_mem_cons.mpr ⟨a_c_9_135, List.forall_mem_cons.mpr ⟨a_c_9_136, List.forall_mem_cons.mpr ⟨a_c_9_139, List.forall_mem_cons.mpr ⟨a_c_9_140, List.forall_mem_cons.mpr ⟨a_c_9_143, fun _ h => absurd h List.not_mem_nil⟩⟩⟩⟩⟩⟩⟩⟩⟩⟩⟩⟩⟩⟩⟩⟩⟩⟩⟩⟩⟩⟩⟩⟩⟩⟩⟩⟩⟩⟩⟩⟩⟩⟩⟩⟩⟩⟩⟩⟩⟩⟩⟩⟩⟩⟩⟩⟩⟩⟩⟩⟩⟩⟩⟩⟩⟩⟩⟩⟩
theorem a_crL_ok : ∀ q ∈ a_crL, a_okC q := List.forall_mem_append.mpr ⟨a_crL0_ok, List.forall_mem_append.mpr ⟨a_crL1_ok, List.forall_mem_append.mpr ⟨a_crL2_ok, List.forall_mem_append.mpr ⟨a_crL3_ok, List.forall_mem_append.mpr ⟨a_crL4_ok, List.forall_mem_append.mpr ⟨a_crL5_ok, List.forall_mem_append.mpr ⟨a_crL6_ok, a_crL9_ok⟩⟩⟩⟩⟩⟩⟩
set_option maxRecDepth 100000 in
theorem a_mh0 : Cond.static Lib.Math.max.name ∈ a_T0 ∧ Cond.code Lib.Math.max.name Lib.Math.max.code 2 (some .int) ∈ a_T0 := ⟨a_mT 270 (by decide +kernel) (by decide +kernel), a_mT 271 (by decide +kernel) rfl⟩
set_option maxRecDepth 100000 in
theorem a_mh1 : Cond.static Lib.Math.min.name ∈ a_T0 ∧ Cond.code Lib.Math.min.name Lib.Math.min.code 2 (some .int) ∈ a_T0 := ⟨a_mT 267 (by decide +kernel) (by decide +kernel), a_mT 268 (by decide +kernel) rfl⟩
set_option maxRecDepth 100000 in
theorem a_mh2 : Cond.static Lib.Math.abs.name ∈ a_T0 ∧ Cond.code Lib.Math.abs.name Lib.Math.abs.code 1 (some .int) ∈ a_T0 := ⟨a_mT 439 (by decide +kernel) (by decide +kernel), a_mT 440 (by decide +kernel) rfl⟩
def a_mhN (t : Nat) : MethodName := match t with
  | 0 => Lib.Math.max.name
  | 1 => Lib.Math.min.name
  | _ => Lib.Math.abs.name
theorem a_mhL_ok : ∀ q ∈ a_mhL, Cond.methodLink (a_cn q.1) q.2.1 (a_mhN q.2.2) ∈ a_T0 ∧ q.2.2 < 3 := List.forall_mem_cons.mpr ⟨⟨a_mT 357 (by decide +kernel) (by decide +kernel), by decide⟩, List.forall_mem_cons.mpr ⟨⟨a_mT 358 (by decide +kernel) (by decide +kernel), by decide⟩, List.forall_mem_cons.mpr ⟨⟨a_mT 348 (by decide +kernel) (by decide +kernel), by decide⟩, List.forall_mem_cons.mpr ⟨⟨a_mT 266 (by decide +kernel) (by decide +kernel), by decide⟩, List.forall_mem_cons.mpr ⟨⟨a_mT 269 (by decide +kernel) (by decide +kernel), by decide⟩, List.forall_mem_cons.mpr ⟨⟨a_mT 438 (by decide +kernel) (by decide +kernel), by decide⟩, fun _ h => absurd h List.not_mem_nil⟩⟩⟩⟩⟩⟩
def a_fT (c : Nat) : u_T := match c with
  | 0 => TX0
  | 1 => TX1
  | 2 => TX2
  | 3 => TX3
  | 4 => TX4
  | 5 => TX5
  | _ => TX6
theorem a_frL_ok : ∀ q ∈ a_frL, Cond.fieldLink (a_cn q.1) q.2.1 (a_cn q.2.2.1) (a_fT q.2.2.1 q.2.2.2).2.1 (a_fT q.2.2.1 q.2.2.2).2.2.1 ∈ a_T0 := List.forall_mem_cons.mpr ⟨a_mT 155 (by decide +kernel) (by decide +kernel), List.forall_mem_cons.mpr ⟨a_mT 156 (by decide +kernel) (by decide +kernel), List.forall_mem_cons.mpr ⟨a_mT 157 (by decide +kernel) (by decide +kernel), List.forall_mem_cons.mpr ⟨a_mT 158 (by decide +kernel) (by decide +kernel), List.forall_mem_cons.mpr ⟨a_mT 159 (by decide +kernel) (by decide +kernel), List.forall_mem_cons.mpr ⟨a_mT 127 (by decide +kernel) (by decide +kernel), List.forall_mem_cons.mpr ⟨a_mT 128 (by decide +kernel) (by decide +kernel), List.forall_mem_cons.mpr ⟨a_mT 129 (by decide +kernel) (by decide +kernel), List.forall_mem_cons.mpr ⟨a_mT 130 (by decide +kernel) (by decide +kernel), List.forall_mem_cons.mpr ⟨a_mT 131 (by decide +kernel) (by decide +kernel), List.forall_mem_cons.mpr ⟨a_mT 132 (by decide +kernel) (by decide +kernel), List.forall_mem_cons.mpr ⟨a_mT 133 (by decide +kernel) (by decide +kernel), List.forall_mem_cons.mpr ⟨a_mT 91 (by decide +kernel) (by decide +kernel), List.forall_mem_cons.mpr ⟨a_mT 94 (by decide +kernel) (by decide +kernel), List.forall_mem_cons.mpr ⟨a_mT 88 (by decide +kernel) (by decide +kernel), List.forall_mem_cons.mpr ⟨a_mT 82 (by decide +kernel) (by decide +kernel), List.forall_mem_cons.mpr ⟨a_mT 85 (by decide +kernel) (by decide +kernel), List.forall_mem_cons.mpr ⟨a_mT 177 (by decide +kernel) (by decide +kernel), List.forall_mem_cons.mpr ⟨a_mT 178 (by decide +kernel) (by decide +kernel), List.forall_mem_cons.mpr ⟨a_mT 179 (by decide +kernel) (by decide +kernel), List.forall_mem_cons.mpr ⟨a_mT 78 (by decide +kernel) (by decide +kernel), List.forall_mem_cons.mpr ⟨a_mT 79 (by decide +kernel) (by decide +kernel), List.forall_mem_cons.mpr ⟨a_mT 80 (by decide +kernel) (by decide +kernel), List.forall_mem_cons.mpr ⟨a_mT 81 (by decide +kernel) (by decide +kernel), List.forall_mem_cons.mpr ⟨a_mT 84 (by decide +kernel) (by decide +kernel), List.forall_mem_cons.mpr ⟨a_mT 87 (by decide +kernel) (by decide +kernel), List.forall_mem_cons.mpr ⟨a_mT 90 (by decide +kernel) (by decide +kernel), List.forall_mem_cons.mpr ⟨a_mT 93 (by decide +kernel) (by decide +kernel), List.forall_mem_cons.mpr ⟨a_mT 96 (by decide +kernel) (by decide +kernel), List.forall_mem_cons.mpr ⟨a_mT 98 (by decide +kernel) (by decide +kernel), List.forall_mem_cons.mpr ⟨a_mT 64 (by decide +kernel) (by decide +kernel), List.forall_mem_cons.mpr ⟨a_mT 65 (by decide +kernel) (by decide +kernel), List.forall_mem_cons.mpr ⟨a_mT 187 (by decide +kernel) (by decide +kernel), List.forall_mem_cons.mpr ⟨a_mT 188 (by decide +kernel) (by decide +kernel), List.forall_mem_cons.mpr ⟨a_mT 189 (by decide +kernel) (by decide +kernel), List.forall_mem_cons.mpr ⟨a_mT 190 (by decide +kernel) (by decide +kernel), List.forall_mem_cons.mpr ⟨a_mT 191 (by decide +kernel) (by decide +kernel), List.forall_mem_cons.mpr ⟨a_mT 192 (by decide +kernel) (by decide +kernel), List.forall_mem_cons.mpr ⟨a_mT 193 (by decide +kernel) (by decide +kernel), List.forall_mem_cons.mpr ⟨a_mT 194 (by decide +kernel) (by decide +kernel), List.forall_mem_cons.mpr ⟨a_mT 195 (by decide +kernel) (by decide +kernel), List.forall_mem_cons.mpr ⟨a_mT 196 (by decide +kernel) (by decide +kernel), List.forall_mem_cons.mpr ⟨a_mT 197 (by decide +kernel) (by decide +kernel), List.forall_mem_cons.mpr ⟨a_mT 83 (by decide +kernel) (by decide +kernel), List.forall_mem_cons.mpr ⟨a_mT 86 (by decide +kernel) (by decide +kernel), List.forall_mem_cons.mpr ⟨a_mT 89 (by decide +kernel) (by decide +kernel), List.forall_mem_cons.mpr ⟨a_mT 92 (by decide +kernel) (by decide +kernel), List.forall_mem_cons.mpr ⟨a_mT 95 (by decide +kernel) (by decide +kernel), List.forall_mem_cons.mpr ⟨a_mT 97 (by decide +kernel) (by decide +kernel), List.forall_mem_cons.mpr ⟨a_mT 99 (by decide +kernel) (by decide +kernel), List.forall_mem_cons.mpr ⟨a_mT 711 (by decide +kernel) (by decide +kernel), List.forall_mem_cons.mpr ⟨a_mT 713 (by decide +kernel) (by decide +kernel), List.forall_mem_cons.mpr ⟨a_mT 714 (by decide +kernel) (by decide +kernel), List.forall_mem_cons.mpr ⟨a_mT 715 (by decide +kernel) (by decide +kernel), List.forall_mem_cons.mpr ⟨a_mT 716 (by decide +kernel) (by decide +kernel), List.forall_mem_cons.mpr ⟨a_mT 718 (by decide +kernel) (by decide +kernel), List.forall_mem_cons.mpr ⟨a_mT 719 (by decide +kernel) (by decide +kernel), List.forall_mem_cons.mpr ⟨a_mT 721 (by decide +kernel) (by decide +kernel), List.forall_mem_cons.mpr ⟨a_mT 722 (by decide +kernel) (by decide +kernel), List.forall_mem_cons.mpr ⟨a_mT 731 (by decide +kernel) (by decide +kernel), List.forall_mem_cons.mpr ⟨a_mT 710 (by decide +kernel) (by decide +kernel), List.forall_mem_cons.mpr ⟨a_mT 712 (by decide +kernel) (by decide +kernel), List.forall_mem_cons.mpr ⟨a_mT 717 (by decide +kernel) (by decide +kernel), List.forall_mem_cons.mpr ⟨a_mT 724 (by decide +kernel) (by decide +kernel), List.forall_mem_cons.mpr ⟨a_mT 725 (by decide +kernel) (by decide +kernel), List.forall_mem_cons.mpr ⟨a_mT 726 (by decide +kernel) (by decide +kernel), List.forall_mem_cons.mpr ⟨a_mT 720 (by decide +kernel) (by decide +kernel), List.forall_mem_cons.mpr ⟨a_mT 727 (by decide +kernel) (by decide +kernel), List.forall_mem_cons.mpr ⟨a_mT 728 (by decide +kernel) (by decide +kernel), List.forall_mem_cons.mpr ⟨a_mT 729 (by decide +kernel) (by decide +kernel), List.forall_mem_cons.mpr ⟨a_mT 730 (by decide +kernel) (by decide +kernel), List.forall_mem_cons.mpr ⟨a_mT 723 (by decide +kernel) (by decide +kernel), fun _ h => absurd h List.not_mem_nil⟩⟩⟩⟩⟩⟩⟩⟩⟩⟩⟩⟩⟩⟩⟩⟩⟩⟩⟩⟩⟩⟩⟩⟩⟩⟩⟩⟩⟩⟩⟩⟩⟩⟩⟩⟩⟩⟩⟩⟩⟩⟩⟩⟩⟩⟩⟩⟩⟩⟩⟩⟩⟩⟩⟩⟩⟩⟩⟩⟩⟩⟩⟩⟩⟩⟩⟩⟩⟩⟩⟩⟩
theorem a_gsL_ok : ∀ q ∈ a_gsL, Cond.fieldLink (a_cn q.1) q.2.1 RX5 (if q.2.2 = 1002 then "FACTORIALS" else "FIVES") (if q.2.2 = 1002 then "[I" else "[J") ∈ a_T0 ∧ (q.2.2 = 1002 ∨ q.2.2 = 1003) := List.forall_mem_cons.mpr ⟨⟨a_mT 573 (by decide +kernel) (by decide +kernel), by decide⟩, List.forall_mem_cons.mpr ⟨⟨a_mT 631 (by decide +kernel) (by decide +kernel), by decide⟩, fun _ h => absurd h List.not_mem_nil⟩⟩
theorem a_klL_ok : ∀ q ∈ a_klL, Cond.constantLong (a_cn q.1) q.2.1 q.2.2 ∈ a_T0 := List.forall_mem_cons.mpr ⟨a_mT 580 (by decide +kernel) (by decide +kernel), List.forall_mem_cons.mpr ⟨a_mT 681 (by decide +kernel) (by decide +kernel), List.forall_mem_cons.mpr ⟨a_mT 682 (by decide +kernel) (by decide +kernel), List.forall_mem_cons.mpr ⟨a_mT 782 (by decide +kernel) (by decide +kernel), List.forall_mem_cons.mpr ⟨a_mT 802 (by decide +kernel) (by decide +kernel), List.forall_mem_cons.mpr ⟨a_mT 803 (by decide +kernel) (by decide +kernel), List.forall_mem_cons.mpr ⟨a_mT 878 (by decide +kernel) (by decide +kernel), List.forall_mem_cons.mpr ⟨a_mT 904 (by decide +kernel) (by decide +kernel), List.forall_mem_cons.mpr ⟨a_mT 918 (by decide +kernel) (by decide +kernel), List.forall_mem_cons.mpr ⟨a_mT 933 (by decide +kernel) (by decide +kernel), List.forall_mem_cons.mpr ⟨a_mT 970 (by decide +kernel) (by decide +kernel), List.forall_mem_cons.mpr ⟨a_mT 971 (by decide +kernel) (by decide +kernel), List.forall_mem_cons.mpr ⟨a_mT 1022 (by decide +kernel) (by decide +kernel), List.forall_mem_cons.mpr ⟨a_mT 1034 (by decide +kernel) (by decide +kernel), List.forall_mem_cons.mpr ⟨a_mT 1035 (by decide +kernel) (by decide +kernel), List.forall_mem_cons.mpr ⟨a_mT 1036 (by decide +kernel) (by decide +kernel), List.forall_mem_cons.mpr ⟨a_mT 1045 (by decide +kernel) (by decide +kernel), fun _ h => absurd h List.not_mem_nil⟩⟩⟩⟩⟩⟩⟩⟩⟩⟩⟩⟩⟩⟩⟩⟩⟩
theorem a_kiL_ok : ∀ q ∈ a_kiL, Cond.constant (a_cn q.1) q.2.1 q.2.2 ∈ a_T0 := List.forall_mem_cons.mpr ⟨a_mT 377 (by decide +kernel) (by decide +kernel), List.forall_mem_cons.mpr ⟨a_mT 378 (by decide +kernel) (by decide +kernel), List.forall_mem_cons.mpr ⟨a_mT 379 (by decide +kernel) (by decide +kernel), fun _ h => absurd h List.not_mem_nil⟩⟩⟩
theorem a_inX0 : ∀ w ∈ u_ws RX0 TX0 5, w ∈ a_T0 := List.forall_mem_cons.mpr ⟨a_mT 160 (by decide +kernel) (by decide +kernel), List.forall_mem_cons.mpr ⟨a_mT 162 (by decide +kernel) (by decide +kernel), List.forall_mem_cons.mpr ⟨a_mT 164 (by decide +kernel) (by decide +kernel), List.forall_mem_cons.mpr ⟨a_mT 166 (by decide +kernel) (by decide +kernel), List.forall_mem_cons.mpr ⟨a_mT 168 (by decide +kernel) (by decide +kernel), fun _ h => absurd h List.not_mem_nil⟩⟩⟩⟩⟩
theorem a_inX1 : ∀ w ∈ u_ws RX1 TX1 7, w ∈ a_T0 := List.forall_mem_cons.mpr ⟨a_mT 134 (by decide +kernel) (by decide +kernel), List.forall_mem_cons.mpr ⟨a_mT 136 (by decide +kernel) (by decide +kernel), List.forall_mem_cons.mpr ⟨a_mT 138 (by decide +kernel) (by decide +kernel), List.forall_mem_cons.mpr ⟨a_mT 140 (by decide +kernel) (by decide +kernel), List.forall_mem_cons.mpr ⟨a_mT 142 (by decide +kernel) (by decide +kernel), List.forall_mem_cons.mpr ⟨a_mT 144 (by decide +kernel) (by decide +kernel), List.forall_mem_cons.mpr ⟨a_mT 146 (by decide +kernel) (by decide +kernel), fun _ h => absurd h List.not_mem_nil⟩⟩⟩⟩⟩⟩⟩
theorem a_inX2 : ∀ w ∈ u_ws RX2 TX2 3, w ∈ a_T0 := List.forall_mem_cons.mpr ⟨a_mT 180 (by decide +kernel) (by decide +kernel), List.forall_mem_cons.mpr ⟨a_mT 182 (by decide +kernel) (by decide +kernel), List.forall_mem_cons.mpr ⟨a_mT 184 (by decide +kernel) (by decide +kernel), fun _ h => absurd h List.not_mem_nil⟩⟩⟩
theorem a_inX3 : ∀ w ∈ u_ws RX3 TX3 10, w ∈ a_T0 := List.forall_mem_cons.mpr ⟨a_mT 100 (by decide +kernel) (by decide +kernel), List.forall_mem_cons.mpr ⟨a_mT 102 (by decide +kernel) (by decide +kernel), List.forall_mem_cons.mpr ⟨a_mT 104 (by decide +kernel) (by decide +kernel), List.forall_mem_cons.mpr ⟨a_mT 106 (by decide +kernel) (by decide +kernel), List.forall_mem_cons.mpr ⟨a_mT 108 (by decide +kernel) (by decide +kernel), List.forall_mem_cons.mpr ⟨a_mT 110 (by decide +kernel) (by decide +kernel), List.forall_mem_cons.mpr ⟨a_mT 112 (by decide +kernel) (by decide +kernel), List.forall_mem_cons.mpr ⟨a_mT 114 (by decide +kernel) (by decide +kernel), List.forall_mem_cons.mpr ⟨a_mT 116 (by decide +kernel) (by decide +kernel), List.forall_mem_cons.mpr ⟨a_mT 118 (by decide +kernel) (by decide +kernel), fun _ h => absurd h List.not_mem_nil⟩⟩⟩⟩⟩⟩⟩⟩⟩⟩
theorem a_inX4 : ∀ w ∈ u_ws RX4 TX4 2, w ∈ a_T0 := List.forall_mem_cons.mpr ⟨a_mT 66 (by decide +kernel) (by decide +kernel), List.forall_mem_cons.mpr ⟨a_mT 68 (by decide +kernel) (by decide +kernel), fun _ h => absurd h List.not_mem_nil⟩⟩
theorem a_inX5 : ∀ w ∈ u_ws RX5 TX5 11, w ∈ a_T0 := List.forall_mem_cons.mpr ⟨a_mT 198 (by decide +kernel) (by decide +kernel), List.forall_mem_cons.mpr ⟨a_mT 200 (by decide +kernel) (by decide +kernel), List.forall_mem_cons.mpr ⟨a_mT 202 (by decide +kernel) (by decide +kernel), List.forall_mem_cons.mpr ⟨a_mT 204 (by decide +kernel) (by decide +kernel), List.forall_mem_cons.mpr ⟨a_mT 206 (by decide +kernel) (by decide +kernel), List.forall_mem_cons.mpr ⟨a_mT 208 (by decide +kernel) (by decide +kernel), List.forall_mem_cons.mpr ⟨a_mT 210 (by decide +kernel) (by decide +kernel), List.forall_mem_cons.mpr ⟨a_mT 212 (by decide +kernel) (by decide +kernel), List.forall_mem_cons.mpr ⟨a_mT 214 (by decide +kernel) (by decide +kernel), List.forall_mem_cons.mpr ⟨a_mT 216 (by decide +kernel) (by decide +kernel), List.forall_mem_cons.mpr ⟨a_mT 218 (by decide +kernel) (by decide +kernel), fun _ h => absurd h List.not_mem_nil⟩⟩⟩⟩⟩⟩⟩⟩⟩⟩⟩
theorem a_inX6 : ∀ w ∈ u_ws RX6 TX6 22, w ∈ a_T0 := List.forall_mem_cons.mpr ⟨a_mT 732 (by decide +kernel) (by decide +kernel), List.forall_mem_cons.mpr ⟨a_mT 734 (by decide +kernel) (by decide +kernel), List.forall_mem_cons.mpr ⟨a_mT 736 (by decide +kernel) (by decide +kernel), List.forall_mem_cons.mpr ⟨a_mT 738 (by decide +kernel) (by decide +kernel), List.forall_mem_cons.mpr ⟨a_mT 740 (by decide +kernel) (by decide +kernel), List.forall_mem_cons.mpr ⟨a_mT 742 (by decide +kernel) (by decide +kernel), List.forall_mem_cons.mpr ⟨a_mT 744 (by decide +kernel) (by decide +kernel), List.forall_mem_cons.mpr ⟨a_mT 746 (by decide +kernel) (by decide +kernel), List.forall_mem_cons.mpr ⟨a_mT 748 (by decide +kernel) (by decide +kernel), List.forall_mem_cons.mpr ⟨a_mT 750 (by decide +kernel) (by decide +kernel), List.forall_mem_cons.mpr ⟨a_mT 752 (by decide +kernel) (by decide +kernel), List.forall_mem_cons.mpr ⟨a_mT 754 (by decide +kernel) (by decide +kernel), List.forall_mem_cons.mpr ⟨a_mT 756 (by decide +kernel) (by decide +kernel), List.forall_mem_cons.mpr ⟨a_mT 758 (by decide +kernel) (by decide +kernel), List.forall_mem_cons.mpr ⟨a_mT 760 (by decide +kernel) (by decide +kernel), List.forall_mem_cons.mpr ⟨a_mT 762 (by decide +kernel) (by decide +kernel), List.forall_mem_cons.mpr ⟨a_mT 764 (by decide +kernel) (by decide +kernel), List.forall_mem_cons.mpr ⟨a_mT 766 (by decide +kernel) (by decide +kernel), List.forall_mem_cons.mpr ⟨a_mT 768 (by decide +kernel) (by decide +kernel), List.forall_mem_cons.mpr ⟨a_mT 770 (by decide +kernel) (by decide +kernel), List.forall_mem_cons.mpr ⟨a_mT 772 (by decide +kernel) (by decide +kernel), List.forall_mem_cons.mpr ⟨a_mT 774 (by decide +kernel) (by decide +kernel), fun _ h => absurd h List.not_mem_nil⟩⟩⟩⟩⟩⟩⟩⟩⟩⟩⟩⟩⟩⟩⟩⟩⟩⟩⟩⟩⟩⟩
/-- what is known of a class of ours -/
def a_okF (c : Nat) (C : String) (T : u_T) (N : Nat) : Prop := vwCl[c]? = some (C, T, N) ∧ C = a_cn c ∧ T = a_fT c ∧ (a_fs c).length = N ∧ (∀ w ∈ u_ws C T N, w ∈ a_T0) ∧ (∃ ty : Nat → FieldType, ∀ k, k < N → parseFieldDescriptor (T k).2.2.1 = some (ty k)) ∧ (∀ a, a < N → ∀ b, b < N → a ≠ b → (T a).2.1 ≠ (T b).2.1) ∧ (∀ j, j < N → (T j).1 = C) ∧ (∀ j, j < N → (a_fs c)[j]? = some 0 → parseFieldDescriptor (T j).2.2.1 = some .int ∧ (T j).2.2.2 = false) ∧ (∀ j, j < N → (a_fs c)[j]? = some 1 → parseFieldDescriptor (T j).2.2.1 = some .long ∧ (T j).2.2.2 = false)
theorem a_okF0 : a_okF 0 RX0 TX0 5 := ⟨rfl, rfl, rfl, rfl, a_inX0, ⟨tyX0, tyX0_ok⟩, nmX0, by decide +kernel, by decide +kernel, by decide +kernel⟩
theorem a_okF1 : a_okF 1 RX1 TX1 7 := ⟨rfl, rfl, rfl, rfl, a_inX1, ⟨tyX1, tyX1_ok⟩, nmX1, by decide +kernel, by decide +kernel, by decide +kernel⟩
theorem a_okF2 : a_okF 2 RX2 TX2 3 := ⟨rfl, rfl, rfl, rfl, a_inX2, ⟨tyX2, tyX2_ok⟩, nmX2, by decide +kernel, by decide +kernel, by decide +kernel⟩
theorem a_okF3 : a_okF 3 RX3 TX3 10 := ⟨rfl, rfl, rfl, rfl, a_inX3, ⟨tyX3, tyX3_ok⟩, nmX3, by decide +kernel, by decide +kernel, by decide +kernel⟩
theorem a_okF4 : a_okF 4 RX4 TX4 2 := ⟨rfl, rfl, rfl, rfl, a_inX4, ⟨tyX4, tyX4_ok⟩, nmX4, by decide +kernel, by decide +kernel, by decide +kernel⟩
theorem a_okF5 : a_okF 5 RX5 TX5 11 := ⟨rfl, rfl, rfl, rfl, a_inX5, ⟨tyX5, tyX5_ok⟩, nmX5, by decide +kernel, by decide +kernel, by decide +kernel⟩
theorem a_okF6 : a_okF 6 RX6 TX6 22 := ⟨rfl, rfl, rfl, rfl, a_inX6, ⟨tyX6, tyX6_ok⟩, nmX6, by decide +kernel, by decide +kernel, by decide +kernel⟩
theorem a_okF_all {c : Nat} (h : c < 7) : ∃ (C : String) (T : u_T) (N : Nat), a_okF c C T N := by
  rcases (show c = 0 ∨ c = 1 ∨ c = 2 ∨ c = 3 ∨ c = 4 ∨ c = 5 ∨ c = 6 by omega) with rfl | rfl | rfl | rfl | rfl | rfl | rfl
  · exact ⟨_, _, _, a_okF0⟩
  · exact ⟨_, _, _, a_okF1⟩
  · exact ⟨_, _, _, a_okF2⟩
  · exact ⟨_, _, _, a_okF3⟩
  · exact ⟨_, _, _, a_okF4⟩
  · exact ⟨_, _, _, a_okF5⟩
  · exact ⟨_, _, _, a_okF6⟩

theorem a_find_mem {α : Type} : ∀ (l : List (Nat × Nat × α)) (c i : Nat) (v : α), a_find l c i = some v → (c, i, v) ∈ l
  | [], _, _, _, h => by cases h
  | (a, b, u) :: r, c, i, v, h => by
    unfold a_find at h
    by_cases hc : a = c ∧ b = i
    · rw [if_pos hc] at h
      obtain ⟨rfl, rfl⟩ := hc
      cases h
      exact List.mem_cons_self
    · rw [if_neg hc] at h
      exact List.mem_cons_of_mem _ (a_find_mem r c i v h)
theorem a_fr_lt {c i ci j : Nat} (h : a_fr c i = some (ci, j)) : ci < 7 ∧ j < (a_fs ci).length := by
  have hm := a_find_mem _ _ _ _ h
  have hall : ∀ q ∈ a_frL, q.2.2.1 < 7 ∧ q.2.2.2 < (a_fs q.2.2.1).length := by decide +kernel
  exact hall _ hm
