set_option maxRecDepth 100000 in
theorem clX0 : ∀ w ∈ u_ws RX0 TX0 3, w ∈ wsT := by
  show ∀ w ∈ [u_lay RX0 TX0 0, u_lay RX0 TX0 1, u_lay RX0 TX0 2], w ∈ wsT
  exact List.forall_mem_cons.mpr ⟨mT 267 (by decide +kernel) (by decide +kernel), List.forall_mem_cons.mpr ⟨mT 269 (by decide +kernel) (by decide +kernel), List.forall_mem_cons.mpr ⟨mT 271 (by decide +kernel) (by decide +kernel), fun _ h => absurd h List.not_mem_nil⟩⟩⟩
set_option maxRecDepth 100000 in
theorem clX1 : ∀ w ∈ u_ws RX1 TX1 5, w ∈ wsT := by
  show ∀ w ∈ [u_lay RX1 TX1 0, u_lay RX1 TX1 1, u_lay RX1 TX1 2, u_lay RX1 TX1 3, u_lay RX1 TX1 4], w ∈ wsT
  exact List.forall_mem_cons.mpr ⟨mT 180 (by decide +kernel) (by decide +kernel), List.forall_mem_cons.mpr ⟨mT 182 (by decide +kernel) (by decide +kernel), List.forall_mem_cons.mpr ⟨mT 184 (by decide +kernel) (by decide +kernel), List.forall_mem_cons.mpr ⟨mT 186 (by decide +kernel) (by decide +kernel), List.forall_mem_cons.mpr ⟨mT 188 (by decide +kernel) (by decide +kernel), fun _ h => absurd h List.not_mem_nil⟩⟩⟩⟩⟩
set_option maxRecDepth 100000 in
theorem clX2 : ∀ w ∈ u_ws RX2 TX2 4, w ∈ wsT := by
  show ∀ w ∈ [u_lay RX2 TX2 0, u_lay RX2 TX2 1, u_lay RX2 TX2 2, u_lay RX2 TX2 3], w ∈ wsT
  exact List.forall_mem_cons.mpr ⟨mT 156 (by decide +kernel) (by decide +kernel), List.forall_mem_cons.mpr ⟨mT 158 (by decide +kernel) (by decide +kernel), List.forall_mem_cons.mpr ⟨mT 160 (by decide +kernel) (by decide +kernel), List.forall_mem_cons.mpr ⟨mT 162 (by decide +kernel) (by decide +kernel), fun _ h => absurd h List.not_mem_nil⟩⟩⟩⟩
set_option maxRecDepth 100000 in
theorem clX3 : ∀ w ∈ u_ws RX3 TX3 5, w ∈ wsT := by
  show ∀ w ∈ [u_lay RX3 TX3 0, u_lay RX3 TX3 1, u_lay RX3 TX3 2, u_lay RX3 TX3 3, u_lay RX3 TX3 4], w ∈ wsT
  exact List.forall_mem_cons.mpr ⟨mT 204 (by decide +kernel) (by decide +kernel), List.forall_mem_cons.mpr ⟨mT 206 (by decide +kernel) (by decide +kernel), List.forall_mem_cons.mpr ⟨mT 208 (by decide +kernel) (by decide +kernel), List.forall_mem_cons.mpr ⟨mT 210 (by decide +kernel) (by decide +kernel), List.forall_mem_cons.mpr ⟨mT 212 (by decide +kernel) (by decide +kernel), fun _ h => absurd h List.not_mem_nil⟩⟩⟩⟩⟩
set_option maxRecDepth 100000 in
theorem clX4 : ∀ w ∈ u_ws RX4 TX4 6, w ∈ wsT := by
  show ∀ w ∈ [u_lay RX4 TX4 0, u_lay RX4 TX4 1, u_lay RX4 TX4 2, u_lay RX4 TX4 3, u_lay RX4 TX4 4, u_lay RX4 TX4 5], w ∈ wsT
  exact List.forall_mem_cons.mpr ⟨mT 131 (by decide +kernel) (by decide +kernel), List.forall_mem_cons.mpr ⟨mT 133 (by decide +kernel) (by decide +kernel), List.forall_mem_cons.mpr ⟨mT 135 (by decide +kernel) (by decide +kernel), List.forall_mem_cons.mpr ⟨mT 137 (by decide +kernel) (by decide +kernel), List.forall_mem_cons.mpr ⟨mT 139 (by decide +kernel) (by decide +kernel), List.forall_mem_cons.mpr ⟨mT 141 (by decide +kernel) (by decide +kernel), fun _ h => absurd h List.not_mem_nil⟩⟩⟩⟩⟩⟩
set_option maxRecDepth 100000 in
theorem clX5 : ∀ w ∈ u_ws RX5 TX5 5, w ∈ wsT := by
  show ∀ w ∈ [u_lay RX5 TX5 0, u_lay RX5 TX5 1, u_lay RX5 TX5 2, u_lay RX5 TX5 3, u_lay RX5 TX5 4], w ∈ wsT
  exact List.forall_mem_cons.mpr ⟨mT 229 (by decide +kernel) (by decide +kernel), List.forall_mem_cons.mpr ⟨mT 231 (by decide +kernel) (by decide +kernel), List.forall_mem_cons.mpr ⟨mT 233 (by decide +kernel) (by decide +kernel), List.forall_mem_cons.mpr ⟨mT 235 (by decide +kernel) (by decide +kernel), List.forall_mem_cons.mpr ⟨mT 237 (by decide +kernel) (by decide +kernel), fun _ h => absurd h List.not_mem_nil⟩⟩⟩⟩⟩
set_option maxRecDepth 100000 in
theorem clX6 : ∀ w ∈ u_ws RX6 TX6 2, w ∈ wsT := by
  show ∀ w ∈ [u_lay RX6 TX6 0, u_lay RX6 TX6 1], w ∈ wsT
  exact List.forall_mem_cons.mpr ⟨mT 284 (by decide +kernel) (by decide +kernel), List.forall_mem_cons.mpr ⟨mT 286 (by decide +kernel) (by decide +kernel), fun _ h => absurd h List.not_mem_nil⟩⟩
set_option maxRecDepth 100000 in
theorem clX7 : ∀ w ∈ u_ws RX7 TX7 3, w ∈ wsT := by
  show ∀ w ∈ [u_lay RX7 TX7 0, u_lay RX7 TX7 1, u_lay RX7 TX7 2], w ∈ wsT
  exact List.forall_mem_cons.mpr ⟨mT 250 (by decide +kernel) (by decide +kernel), List.forall_mem_cons.mpr ⟨mT 252 (by decide +kernel) (by decide +kernel), List.forall_mem_cons.mpr ⟨mT 254 (by decide +kernel) (by decide +kernel), fun _ h => absurd h List.not_mem_nil⟩⟩⟩
set_option maxRecDepth 100000 in
theorem clX8 : ∀ w ∈ u_ws RX8 TX8 3, w ∈ wsT := by
  show ∀ w ∈ [u_lay RX8 TX8 0, u_lay RX8 TX8 1, u_lay RX8 TX8 2], w ∈ wsT
  exact List.forall_mem_cons.mpr ⟨mT 86 (by decide +kernel) (by decide +kernel), List.forall_mem_cons.mpr ⟨mT 88 (by decide +kernel) (by decide +kernel), List.forall_mem_cons.mpr ⟨mT 90 (by decide +kernel) (by decide +kernel), fun _ h => absurd h List.not_mem_nil⟩⟩⟩
set_option maxRecDepth 100000 in
theorem clX9 : ∀ w ∈ u_ws RX9 TX9 10, w ∈ wsT := by
  show ∀ w ∈ [u_lay RX9 TX9 0, u_lay RX9 TX9 1, u_lay RX9 TX9 2, u_lay RX9 TX9 3, u_lay RX9 TX9 4, u_lay RX9 TX9 5, u_lay RX9 TX9 6, u_lay RX9 TX9 7, u_lay RX9 TX9 8, u_lay RX9 TX9 9], w ∈ wsT
  exact List.forall_mem_cons.mpr ⟨mT 329 (by decide +kernel) (by decide +kernel), List.forall_mem_cons.mpr ⟨mT 331 (by decide +kernel) (by decide +kernel), List.forall_mem_cons.mpr ⟨mT 333 (by decide +kernel) (by decide +kernel), List.forall_mem_cons.mpr ⟨mT 335 (by decide +kernel) (by decide +kernel), List.forall_mem_cons.mpr ⟨mT 337 (by decide +kernel) (by decide +kernel), List.forall_mem_cons.mpr ⟨mT 339 (by decide +kernel) (by decide +kernel), List.forall_mem_cons.mpr ⟨mT 341 (by decide +kernel) (by decide +kernel), List.forall_mem_cons.mpr ⟨mT 343 (by decide +kernel) (by decide +kernel), List.forall_mem_cons.mpr ⟨mT 345 (by decide +kernel) (by decide +kernel), List.forall_mem_cons.mpr ⟨mT 347 (by decide +kernel) (by decide +kernel), fun _ h => absurd h List.not_mem_nil⟩⟩⟩⟩⟩⟩⟩⟩⟩⟩
set_option maxRecDepth 100000 in
theorem clX10 : ∀ w ∈ u_ws RX10 TX10 29, w ∈ wsT := by
  show ∀ w ∈ [u_lay RX10 TX10 0, u_lay RX10 TX10 1, u_lay RX10 TX10 2, u_lay RX10 TX10 3, u_lay RX10 TX10 4, u_lay RX10 TX10 5, u_lay RX10 TX10 6, u_lay RX10 TX10 7, u_lay RX10 TX10 8, u_lay RX10 TX10 9, u_lay RX10 TX10 10, u_lay RX10 TX10 11, u_lay RX10 TX10 12, u_lay RX10 TX10 13, u_lay RX10 TX10 14, u_lay RX10 TX10 15, u_lay RX10 TX10 16, u_lay RX10 TX10 17, u_lay RX10 TX10 18, u_lay RX10 TX10 19, u_lay RX10 TX10 20, u_lay RX10 TX10 21, u_lay RX10 TX10 22, u_lay RX10 TX10 23, u_lay RX10 TX10 24, u_lay RX10 TX10 25, u_lay RX10 TX10 26, u_lay RX10 TX10 27, u_lay RX10 TX10 28], w ∈ wsT
  exact List.forall_mem_cons.mpr ⟨mT 737 (by decide +kernel) (by decide +kernel), List.forall_mem_cons.mpr ⟨mT 739 (by decide +kernel) (by decide +kernel), List.forall_mem_cons.mpr ⟨mT 741 (by decide +kernel) (by decide +kernel), List.forall_mem_cons.mpr ⟨mT 743 (by decide +kernel) (by decide +kernel), List.forall_mem_cons.mpr ⟨mT 745 (by decide +kernel) (by decide +kernel), List.forall_mem_cons.mpr ⟨mT 747 (by decide +kernel) (by decide +kernel), List.forall_mem_cons.mpr ⟨mT 749 (by decide +kernel) (by decide +kernel), List.forall_mem_cons.mpr ⟨mT 751 (by decide +kernel) (by decide +kernel), List.forall_mem_cons.mpr ⟨mT 753 (by decide +kernel) (by decide +kernel), List.forall_mem_cons.mpr ⟨mT 755 (by decide +kernel) (by decide +kernel), List.forall_mem_cons.mpr ⟨mT 757 (by decide +kernel) (by decide +kernel), List.forall_mem_cons.mpr ⟨mT 759 (by decide +kernel) (by decide +kernel), List.forall_mem_cons.mpr ⟨mT 761 (by decide +kernel) (by decide +kernel), List.forall_mem_cons.mpr ⟨mT 763 (by decide +kernel) (by decide +kernel), List.forall_mem_cons.mpr ⟨mT 765 (by decide +kernel) (by decide +kernel), List.forall_mem_cons.mpr ⟨mT 767 (by decide +kernel) (by decide +kernel), List.forall_mem_cons.mpr ⟨mT 769 (by decide +kernel) (by decide +kernel), List.forall_mem_cons.mpr ⟨mT 771 (by decide +kernel) (by decide +kernel), List.forall_mem_cons.mpr ⟨mT 773 (by decide +kernel) (by decide +kernel), List.forall_mem_cons.mpr ⟨mT 775 (by decide +kernel) (by decide +kernel), List.forall_mem_cons.mpr ⟨mT 777 (by decide +kernel) (by decide +kernel), List.forall_mem_cons.mpr ⟨mT 779 (by decide +kernel) (by decide +kernel), List.forall_mem_cons.mpr ⟨mT 781 (by decide +kernel) (by decide +kernel), List.forall_mem_cons.mpr ⟨mT 783 (by decide +kernel) (by decide +kernel), List.forall_mem_cons.mpr ⟨mT 785 (by decide +kernel) (by decide +kernel), List.forall_mem_cons.mpr ⟨mT 787 (by decide +kernel) (by decide +kernel), List.forall_mem_cons.mpr ⟨mT 789 (by decide +kernel) (by decide +kernel), List.forall_mem_cons.mpr ⟨mT 791 (by decide +kernel) (by decide +kernel), List.forall_mem_cons.mpr ⟨mT 793 (by decide +kernel) (by decide +kernel), fun _ h => absurd h List.not_mem_nil⟩⟩⟩⟩⟩⟩⟩⟩⟩⟩⟩⟩⟩⟩⟩⟩⟩⟩⟩⟩⟩⟩⟩⟩⟩⟩⟩⟩⟩
theorem cpW_ok : cpW := ⟨mT 420 (by decide +kernel) rfl, mT 419 (by decide +kernel) rfl, mT 66 (by decide +kernel) rfl⟩
set_option maxRecDepth 100000 in
theorem mxW_ok : mxW := ⟨mT 447 (by decide +kernel) rfl, mT 67 (by decide +kernel) rfl, mT 448 rfl rfl⟩
set_option maxRecDepth 100000 in
theorem mnW_ok : mnW := ⟨mT 436 (by decide +kernel) rfl, mT 67 (by decide +kernel) rfl, mT 437 rfl rfl⟩
abbrev mX4_clear : MM := (yX4_clear, cX4_clear, 1, none)
set_option maxRecDepth 100000 in
theorem vX4_clear : CV mX4_clear 0 := ⟨mT 292 rfl rfl, mT 56 (by decide +kernel) rfl, ⟨by decide +kernel, by decide +kernel, by decide +kernel⟩, by decide⟩
theorem kX4_clear : CI mX4_clear := ⟨mT 290 (by decide +kernel) rfl, mT 291 (by decide +kernel) rfl⟩
abbrev mX4_addMaster : MM := (yX4_addMaster, cX4_addMaster, 2, (some .boolean))
set_option maxRecDepth 100000 in
theorem vX4_addMaster : CV mX4_addMaster 1 := ⟨mT 296 rfl rfl, mT 56 (by decide +kernel) rfl, ⟨by decide +kernel, by decide +kernel, by decide +kernel⟩, by decide⟩
theorem kX4_addMaster : CI mX4_addMaster := ⟨mT 294 (by decide +kernel) rfl, mT 295 (by decide +kernel) rfl⟩
abbrev mX9_isWithin : MM := (yX9_isWithin, cX9_isWithin, 3, (some .boolean))
set_option maxRecDepth 100000 in
theorem vX9_isWithin : CV mX9_isWithin 3 := ⟨mT 299 rfl rfl, mT 54 (by decide +kernel) rfl, ⟨by decide +kernel, by decide +kernel, by decide +kernel⟩, by decide⟩
theorem kX9_isWithin : Cond.static yX9_isWithin ∈ wsT := mT 298 (by decide +kernel) rfl
abbrev mX4_addLad : MM := (yX4_addLad, cX4_addLad, 3, (some .boolean))
set_option maxRecDepth 100000 in
theorem vX4_addLad : CV mX4_addLad 2 := ⟨mT 303 rfl rfl, mT 56 (by decide +kernel) rfl, ⟨by decide +kernel, by decide +kernel, by decide +kernel⟩, by decide⟩
theorem kX4_addLad : CI mX4_addLad := ⟨mT 301 (by decide +kernel) rfl, mT 302 (by decide +kernel) rfl⟩
abbrev mJ7_fill_53178 : MM := (yJ7_fill_53178, cJ7_fill_53178, 4, none)
set_option maxRecDepth 100000 in
theorem vJ7_fill_53178 : CV mJ7_fill_53178 2 := ⟨mT 306 rfl rfl, mT 64 (by decide +kernel) rfl, ⟨by decide +kernel, by decide +kernel, by decide +kernel⟩, by decide⟩
theorem kJ7_fill_53178 : Cond.static yJ7_fill_53178 ∈ wsT := mT 305 (by decide +kernel) rfl
abbrev mX4_addWant : MM := (yX4_addWant, cX4_addWant, 4, (some .boolean))
set_option maxRecDepth 100000 in
theorem vX4_addWant : CV mX4_addWant 3 := ⟨mT 310 rfl rfl, mT 56 (by decide +kernel) rfl, ⟨by decide +kernel, by decide +kernel, by decide +kernel⟩, by decide⟩
theorem kX4_addWant : CI mX4_addWant := ⟨mT 308 (by decide +kernel) rfl, mT 309 (by decide +kernel) rfl⟩
abbrev mX4_hasLad : MM := (yX4_hasLad, cX4_hasLad, 2, (some .boolean))
set_option maxRecDepth 100000 in
theorem vX4_hasLad : CV mX4_hasLad 1 := ⟨mT 314 rfl rfl, mT 56 (by decide +kernel) rfl, ⟨by decide +kernel, by decide +kernel, by decide +kernel⟩, by decide⟩
theorem kX4_hasLad : CI mX4_hasLad := ⟨mT 312 (by decide +kernel) rfl, mT 313 (by decide +kernel) rfl⟩
abbrev mX4_hasMaster : MM := (yX4_hasMaster, cX4_hasMaster, 2, (some .boolean))
set_option maxRecDepth 100000 in
theorem vX4_hasMaster : CV mX4_hasMaster 1 := ⟨mT 318 rfl rfl, mT 56 (by decide +kernel) rfl, ⟨by decide +kernel, by decide +kernel, by decide +kernel⟩, by decide⟩
theorem kX4_hasMaster : CI mX4_hasMaster := ⟨mT 316 (by decide +kernel) rfl, mT 317 (by decide +kernel) rfl⟩
abbrev mX9_write : MM := (yX9_write, cX9_write, 4, (some .int))
set_option maxRecDepth 100000 in
theorem vX9_write : CV mX9_write 2 := ⟨mT 353 rfl rfl, mT 54 (by decide +kernel) rfl, ⟨by decide +kernel, by decide +kernel, by decide +kernel⟩, by decide⟩
theorem kX9_write : CI mX9_write := ⟨mT 351 (by decide +kernel) rfl, mT 352 (by decide +kernel) rfl⟩
abbrev mX8_append : MM := (yX8_append, cX8_append, 5, none)
set_option maxRecDepth 100000 in
theorem vX8_append : CV mX8_append 2 := ⟨mT 358 rfl rfl, mT 55 (by decide +kernel) rfl, ⟨by decide +kernel, by decide +kernel, by decide +kernel⟩, by decide⟩
theorem kX8_append : CI mX8_append := ⟨mT 356 (by decide +kernel) rfl, mT 357 (by decide +kernel) rfl⟩
abbrev mX9_wipe : MM := (yX9_wipe, cX9_wipe, 2, (some .int))
set_option maxRecDepth 100000 in
theorem vX9_wipe : CV mX9_wipe 0 := ⟨mT 362 rfl rfl, mT 54 (by decide +kernel) rfl, ⟨by decide +kernel, by decide +kernel, by decide +kernel⟩, by decide⟩
theorem kX9_wipe : CI mX9_wipe := ⟨mT 360 (by decide +kernel) rfl, mT 361 (by decide +kernel) rfl⟩
abbrev mX9_fault : MM := (yX9_fault, cX9_fault, 1, (some .int))
set_option maxRecDepth 100000 in
theorem vX9_fault : CV mX9_fault 0 := ⟨mT 366 rfl rfl, mT 54 (by decide +kernel) rfl, ⟨by decide +kernel, by decide +kernel, by decide +kernel⟩, by decide⟩
theorem kX9_fault : CI mX9_fault := ⟨mT 364 (by decide +kernel) rfl, mT 365 (by decide +kernel) rfl⟩
abbrev mX8_readInto : MM := (yX8_readInto, cX8_readInto, 6, (some .int))
set_option maxRecDepth 100000 in
theorem vX8_readInto : CV mX8_readInto 1 := ⟨mT 370 rfl rfl, mT 55 (by decide +kernel) rfl, ⟨by decide +kernel, by decide +kernel, by decide +kernel⟩, by decide⟩
theorem kX8_readInto : CI mX8_readInto := ⟨mT 368 (by decide +kernel) rfl, mT 369 (by decide +kernel) rfl⟩
abbrev mX8_numbersOf : MM := (yX8_numbersOf, cX8_numbersOf, 1, (some .int))
set_option maxRecDepth 100000 in
theorem vX8_numbersOf : CV mX8_numbersOf 1 := ⟨mT 374 rfl rfl, mT 55 (by decide +kernel) rfl, ⟨by decide +kernel, by decide +kernel, by decide +kernel⟩, by decide⟩
theorem kX8_numbersOf : Cond.static yX8_numbersOf ∈ wsT := mT 373 (by decide +kernel) rfl
abbrev mX8_readNumbers : MM := (yX8_readNumbers, cX8_readNumbers, 6, (some .int))
set_option maxRecDepth 100000 in
theorem vX8_readNumbers : CV mX8_readNumbers 2 := ⟨mT 378 rfl rfl, mT 55 (by decide +kernel) rfl, ⟨by decide +kernel, by decide +kernel, by decide +kernel⟩, by decide⟩
theorem kX8_readNumbers : CI mX8_readNumbers := ⟨mT 377 (by decide +kernel) rfl, mT 0 (by decide +kernel) rfl⟩
abbrev mX8_figuresAt : MM := (yX8_figuresAt, cX8_figuresAt, 2, (some .int))
set_option maxRecDepth 100000 in
theorem vX8_figuresAt : CV mX8_figuresAt 1 := ⟨mT 382 rfl rfl, mT 55 (by decide +kernel) rfl, ⟨by decide +kernel, by decide +kernel, by decide +kernel⟩, by decide⟩
theorem kX8_figuresAt : CI mX8_figuresAt := ⟨mT 381 (by decide +kernel) rfl, mT 1 (by decide +kernel) rfl⟩
abbrev mX8_isFigureAt : MM := (yX8_isFigureAt, cX8_isFigureAt, 2, (some .boolean))
set_option maxRecDepth 100000 in
theorem vX8_isFigureAt : CV mX8_isFigureAt 1 := ⟨mT 386 rfl rfl, mT 55 (by decide +kernel) rfl, ⟨by decide +kernel, by decide +kernel, by decide +kernel⟩, by decide⟩
theorem kX8_isFigureAt : CI mX8_isFigureAt := ⟨mT 385 (by decide +kernel) rfl, mT 2 (by decide +kernel) rfl⟩
abbrev mX8_numberAt : MM := (yX8_numberAt, cX8_numberAt, 5, (some .int))
set_option maxRecDepth 100000 in
theorem vX8_numberAt : CV mX8_numberAt 2 := ⟨mT 390 rfl rfl, mT 55 (by decide +kernel) rfl, ⟨by decide +kernel, by decide +kernel, by decide +kernel⟩, by decide⟩
theorem kX8_numberAt : CI mX8_numberAt := ⟨mT 389 (by decide +kernel) rfl, mT 3 (by decide +kernel) rfl⟩
abbrev mX8_isSignAt : MM := (yX8_isSignAt, cX8_isSignAt, 3, (some .boolean))
set_option maxRecDepth 100000 in
theorem vX8_isSignAt : CV mX8_isSignAt 2 := ⟨mT 394 rfl rfl, mT 55 (by decide +kernel) rfl, ⟨by decide +kernel, by decide +kernel, by decide +kernel⟩, by decide⟩
theorem kX8_isSignAt : CI mX8_isSignAt := ⟨mT 393 (by decide +kernel) rfl, mT 4 (by decide +kernel) rfl⟩
abbrev mX8_tell : MM := (yX8_tell, cX8_tell, 3, (some .boolean))
set_option maxRecDepth 100000 in
theorem vX8_tell : CV mX8_tell 2 := ⟨mT 398 rfl rfl, mT 55 (by decide +kernel) rfl, ⟨by decide +kernel, by decide +kernel, by decide +kernel⟩, by decide⟩
theorem kX8_tell : CI mX8_tell := ⟨mT 397 (by decide +kernel) rfl, mT 5 (by decide +kernel) rfl⟩
abbrev mX4_tellCalls : MM := (yX4_tellCalls, cX4_tellCalls, 2, (some .boolean))
set_option maxRecDepth 100000 in
theorem vX4_tellCalls : CV mX4_tellCalls 1 := ⟨mT 405 rfl rfl, mT 56 (by decide +kernel) rfl, ⟨by decide +kernel, by decide +kernel, by decide +kernel⟩, by decide⟩
theorem kX4_tellCalls : CI mX4_tellCalls := ⟨mT 403 (by decide +kernel) rfl, mT 404 (by decide +kernel) rfl⟩
abbrev mX4_tellStep : MM := (yX4_tellStep, cX4_tellStep, 2, (some .boolean))
set_option maxRecDepth 100000 in
theorem vX4_tellStep : CV mX4_tellStep 1 := ⟨mT 409 rfl rfl, mT 56 (by decide +kernel) rfl, ⟨by decide +kernel, by decide +kernel, by decide +kernel⟩, by decide⟩
theorem kX4_tellStep : CI mX4_tellStep := ⟨mT 407 (by decide +kernel) rfl, mT 408 (by decide +kernel) rfl⟩
abbrev mX9_lay : MM := (yX9_lay, cX9_lay, 1, (some .int))
set_option maxRecDepth 100000 in
theorem vX9_lay : CV mX9_lay 0 := ⟨mT 413 rfl rfl, mT 54 (by decide +kernel) rfl, ⟨by decide +kernel, by decide +kernel, by decide +kernel⟩, by decide⟩
theorem kX9_lay : CI mX9_lay := ⟨mT 411 (by decide +kernel) rfl, mT 412 (by decide +kernel) rfl⟩
abbrev mX4_copyFrom : MM := (yX4_copyFrom, cX4_copyFrom, 3, none)
set_option maxRecDepth 100000 in
theorem vX4_copyFrom : CV mX4_copyFrom 1 := ⟨mT 417 rfl rfl, mT 56 (by decide +kernel) rfl, ⟨by decide +kernel, by decide +kernel, by decide +kernel⟩, by decide⟩
theorem kX4_copyFrom : CI mX4_copyFrom := ⟨mT 415 (by decide +kernel) rfl, mT 416 (by decide +kernel) rfl⟩
abbrev mX9_lad : MM := (yX9_lad, cX9_lad, 3, (some .int))
set_option maxRecDepth 100000 in
theorem vX9_lad : CV mX9_lad 2 := ⟨mT 424 rfl rfl, mT 54 (by decide +kernel) rfl, ⟨by decide +kernel, by decide +kernel, by decide +kernel⟩, by decide⟩
theorem kX9_lad : CI mX9_lad := ⟨mT 422 (by decide +kernel) rfl, mT 423 (by decide +kernel) rfl⟩
abbrev mX2_hold : MM := (yX2_hold, cX2_hold, 5, none)
set_option maxRecDepth 100000 in
theorem vX2_hold : CV mX2_hold 2 := ⟨mT 429 rfl rfl, mT 57 (by decide +kernel) rfl, ⟨by decide +kernel, by decide +kernel, by decide +kernel⟩, by decide⟩
theorem kX2_hold : CI mX2_hold := ⟨mT 427 (by decide +kernel) rfl, mT 428 (by decide +kernel) rfl⟩
abbrev mX4_boundOf : MM := (yX4_boundOf, cX4_boundOf, 4, (some .int))
set_option maxRecDepth 100000 in
theorem vX4_boundOf : CV mX4_boundOf 2 := ⟨mT 434 rfl rfl, mT 56 (by decide +kernel) rfl, ⟨by decide +kernel, by decide +kernel, by decide +kernel⟩, by decide⟩
theorem kX4_boundOf : CI mX4_boundOf := ⟨mT 432 (by decide +kernel) rfl, mT 433 (by decide +kernel) rfl⟩
abbrev mX2_callFromBelow : MM := (yX2_callFromBelow, cX2_callFromBelow, 6, none)
set_option maxRecDepth 100000 in
theorem vX2_callFromBelow : CV mX2_callFromBelow 2 := ⟨mT 441 rfl rfl, mT 57 (by decide +kernel) rfl, ⟨by decide +kernel, by decide +kernel, by decide +kernel⟩, by decide⟩
theorem kX2_callFromBelow : CI mX2_callFromBelow := ⟨mT 440 (by decide +kernel) rfl, mT 6 (by decide +kernel) rfl⟩
abbrev mX4_stride : MM := (yX4_stride, cX4_stride, 1, (some .int))
set_option maxRecDepth 100000 in
theorem vX4_stride : CV mX4_stride 0 := ⟨mT 445 rfl rfl, mT 56 (by decide +kernel) rfl, ⟨by decide +kernel, by decide +kernel, by decide +kernel⟩, by decide⟩
theorem kX4_stride : CI mX4_stride := ⟨mT 443 (by decide +kernel) rfl, mT 444 (by decide +kernel) rfl⟩
abbrev mX2_howManyIn : MM := (yX2_howManyIn, cX2_howManyIn, 5, (some .int))
set_option maxRecDepth 100000 in
theorem vX2_howManyIn : CV mX2_howManyIn 2 := ⟨mT 452 rfl rfl, mT 57 (by decide +kernel) rfl, ⟨by decide +kernel, by decide +kernel, by decide +kernel⟩, by decide⟩
theorem kX2_howManyIn : CI mX2_howManyIn := ⟨mT 451 (by decide +kernel) rfl, mT 7 (by decide +kernel) rfl⟩
abbrev mX2_isIn : MM := (yX2_isIn, cX2_isIn, 3, (some .boolean))
set_option maxRecDepth 100000 in
theorem vX2_isIn : CV mX2_isIn 2 := ⟨mT 456 rfl rfl, mT 57 (by decide +kernel) rfl, ⟨by decide +kernel, by decide +kernel, by decide +kernel⟩, by decide⟩
theorem kX2_isIn : CI mX2_isIn := ⟨mT 455 (by decide +kernel) rfl, mT 8 (by decide +kernel) rfl⟩
abbrev mX2_hire : MM := (yX2_hire, cX2_hire, 7, (some .int))
set_option maxRecDepth 100000 in
theorem vX2_hire : CV mX2_hire 4 := ⟨mT 460 rfl rfl, mT 57 (by decide +kernel) rfl, ⟨by decide +kernel, by decide +kernel, by decide +kernel⟩, by decide⟩
theorem kX2_hire : CI mX2_hire := ⟨mT 459 (by decide +kernel) rfl, mT 9 (by decide +kernel) rfl⟩
abbrev mX2_callFromAbove : MM := (yX2_callFromAbove, cX2_callFromAbove, 6, none)
set_option maxRecDepth 100000 in
theorem vX2_callFromAbove : CV mX2_callFromAbove 3 := ⟨mT 464 rfl rfl, mT 57 (by decide +kernel) rfl, ⟨by decide +kernel, by decide +kernel, by decide +kernel⟩, by decide⟩
theorem kX2_callFromAbove : CI mX2_callFromAbove := ⟨mT 463 (by decide +kernel) rfl, mT 10 (by decide +kernel) rfl⟩
abbrev mX2_gainOf : MM := (yX2_gainOf, cX2_gainOf, 3, (some .int))
set_option maxRecDepth 100000 in
theorem vX2_gainOf : CV mX2_gainOf 2 := ⟨mT 468 rfl rfl, mT 57 (by decide +kernel) rfl, ⟨by decide +kernel, by decide +kernel, by decide +kernel⟩, by decide⟩
theorem kX2_gainOf : CI mX2_gainOf := ⟨mT 466 (by decide +kernel) rfl, mT 467 (by decide +kernel) rfl⟩
abbrev mX9_master : MM := (yX9_master, cX9_master, 3, (some .int))
set_option maxRecDepth 100000 in
theorem vX9_master : CV mX9_master 2 := ⟨mT 472 rfl rfl, mT 54 (by decide +kernel) rfl, ⟨by decide +kernel, by decide +kernel, by decide +kernel⟩, by decide⟩
theorem kX9_master : CI mX9_master := ⟨mT 470 (by decide +kernel) rfl, mT 471 (by decide +kernel) rfl⟩
abbrev mX2_ladsOf : MM := (yX2_ladsOf, cX2_ladsOf, 5, (some .int))
set_option maxRecDepth 100000 in
theorem vX2_ladsOf : CV mX2_ladsOf 2 := ⟨mT 477 rfl rfl, mT 57 (by decide +kernel) rfl, ⟨by decide +kernel, by decide +kernel, by decide +kernel⟩, by decide⟩
theorem kX2_ladsOf : CI mX2_ladsOf := ⟨mT 475 (by decide +kernel) rfl, mT 476 (by decide +kernel) rfl⟩
abbrev mX2_mostYearsOf : MM := (yX2_mostYearsOf, cX2_mostYearsOf, 5, (some .int))
set_option maxRecDepth 100000 in
theorem vX2_mostYearsOf : CV mX2_mostYearsOf 2 := ⟨mT 481 rfl rfl, mT 57 (by decide +kernel) rfl, ⟨by decide +kernel, by decide +kernel, by decide +kernel⟩, by decide⟩
theorem kX2_mostYearsOf : CI mX2_mostYearsOf := ⟨mT 479 (by decide +kernel) rfl, mT 480 (by decide +kernel) rfl⟩
abbrev mX9_wants : MM := (yX9_wants, cX9_wants, 4, (some .int))
set_option maxRecDepth 100000 in
theorem vX9_wants : CV mX9_wants 3 := ⟨mT 486 rfl rfl, mT 54 (by decide +kernel) rfl, ⟨by decide +kernel, by decide +kernel, by decide +kernel⟩, by decide⟩
theorem kX9_wants : CI mX9_wants := ⟨mT 484 (by decide +kernel) rfl, mT 485 (by decide +kernel) rfl⟩
abbrev mX9_all : MM := (yX9_all, cX9_all, 2, (some .int))
set_option maxRecDepth 100000 in
theorem vX9_all : CV mX9_all 1 := ⟨mT 491 rfl rfl, mT 54 (by decide +kernel) rfl, ⟨by decide +kernel, by decide +kernel, by decide +kernel⟩, by decide⟩
theorem kX9_all : CI mX9_all := ⟨mT 489 (by decide +kernel) rfl, mT 490 (by decide +kernel) rfl⟩
abbrev mX2_yearsOfAll : MM := (yX2_yearsOfAll, cX2_yearsOfAll, 4, (some .int))
set_option maxRecDepth 100000 in
theorem vX2_yearsOfAll : CV mX2_yearsOfAll 1 := ⟨mT 495 rfl rfl, mT 57 (by decide +kernel) rfl, ⟨by decide +kernel, by decide +kernel, by decide +kernel⟩, by decide⟩
theorem kX2_yearsOfAll : CI mX2_yearsOfAll := ⟨mT 493 (by decide +kernel) rfl, mT 494 (by decide +kernel) rfl⟩
abbrev mX2_gainsOfAll : MM := (yX2_gainsOfAll, cX2_gainsOfAll, 4, (some .int))
set_option maxRecDepth 100000 in
theorem vX2_gainsOfAll : CV mX2_gainsOfAll 1 := ⟨mT 499 rfl rfl, mT 57 (by decide +kernel) rfl, ⟨by decide +kernel, by decide +kernel, by decide +kernel⟩, by decide⟩
theorem kX2_gainsOfAll : CI mX2_gainsOfAll := ⟨mT 497 (by decide +kernel) rfl, mT 498 (by decide +kernel) rfl⟩
abbrev mX2_ladsHired : MM := (yX2_ladsHired, cX2_ladsHired, 4, (some .int))
set_option maxRecDepth 100000 in
theorem vX2_ladsHired : CV mX2_ladsHired 1 := ⟨mT 504 rfl rfl, mT 57 (by decide +kernel) rfl, ⟨by decide +kernel, by decide +kernel, by decide +kernel⟩, by decide⟩
theorem kX2_ladsHired : CI mX2_ladsHired := ⟨mT 502 (by decide +kernel) rfl, mT 503 (by decide +kernel) rfl⟩
abbrev mX9_limit : MM := (yX9_limit, cX9_limit, 3, (some .int))
set_option maxRecDepth 100000 in
theorem vX9_limit : CV mX9_limit 2 := ⟨mT 508 rfl rfl, mT 54 (by decide +kernel) rfl, ⟨by decide +kernel, by decide +kernel, by decide +kernel⟩, by decide⟩
theorem kX9_limit : CI mX9_limit := ⟨mT 506 (by decide +kernel) rfl, mT 507 (by decide +kernel) rfl⟩
abbrev mX9_change : MM := (yX9_change, cX9_change, 4, (some .int))
set_option maxRecDepth 100000 in
theorem vX9_change : CV mX9_change 2 := ⟨mT 512 rfl rfl, mT 54 (by decide +kernel) rfl, ⟨by decide +kernel, by decide +kernel, by decide +kernel⟩, by decide⟩
theorem kX9_change : CI mX9_change := ⟨mT 511 (by decide +kernel) rfl, mT 11 (by decide +kernel) rfl⟩
abbrev mX0_note : MM := (yX0_note, cX0_note, 3, none)
set_option maxRecDepth 100000 in
theorem vX0_note : CV mX0_note 2 := ⟨mT 516 rfl rfl, mT 62 (by decide +kernel) rfl, ⟨by decide +kernel, by decide +kernel, by decide +kernel⟩, by decide⟩
theorem kX0_note : CI mX0_note := ⟨mT 514 (by decide +kernel) rfl, mT 515 (by decide +kernel) rfl⟩
abbrev mX9_calls : MM := (yX9_calls, cX9_calls, 2, (some .int))
set_option maxRecDepth 100000 in
theorem vX9_calls : CV mX9_calls 1 := ⟨mT 521 rfl rfl, mT 54 (by decide +kernel) rfl, ⟨by decide +kernel, by decide +kernel, by decide +kernel⟩, by decide⟩
theorem kX9_calls : CI mX9_calls := ⟨mT 519 (by decide +kernel) rfl, mT 520 (by decide +kernel) rfl⟩
abbrev mX9_step : MM := (yX9_step, cX9_step, 2, (some .int))
set_option maxRecDepth 100000 in
theorem vX9_step : CV mX9_step 1 := ⟨mT 525 rfl rfl, mT 54 (by decide +kernel) rfl, ⟨by decide +kernel, by decide +kernel, by decide +kernel⟩, by decide⟩
theorem kX9_step : CI mX9_step := ⟨mT 523 (by decide +kernel) rfl, mT 524 (by decide +kernel) rfl⟩
abbrev mX9_undo : MM := (yX9_undo, cX9_undo, 1, (some .int))
set_option maxRecDepth 100000 in
theorem vX9_undo : CV mX9_undo 0 := ⟨mT 529 rfl rfl, mT 54 (by decide +kernel) rfl, ⟨by decide +kernel, by decide +kernel, by decide +kernel⟩, by decide⟩
theorem kX9_undo : CI mX9_undo := ⟨mT 527 (by decide +kernel) rfl, mT 528 (by decide +kernel) rfl⟩
abbrev mX0_takeBack : MM := (yX0_takeBack, cX0_takeBack, 2, none)
set_option maxRecDepth 100000 in
theorem vX0_takeBack : CV mX0_takeBack 1 := ⟨mT 533 rfl rfl, mT 62 (by decide +kernel) rfl, ⟨by decide +kernel, by decide +kernel, by decide +kernel⟩, by decide⟩
theorem kX0_takeBack : CI mX0_takeBack := ⟨mT 531 (by decide +kernel) rfl, mT 532 (by decide +kernel) rfl⟩
abbrev mX9_lie : MM := (yX9_lie, cX9_lie, 7, (some .int))
set_option maxRecDepth 100000 in
theorem vX9_lie : CV mX9_lie 2 := ⟨mT 537 rfl rfl, mT 54 (by decide +kernel) rfl, ⟨by decide +kernel, by decide +kernel, by decide +kernel⟩, by decide⟩
theorem kX9_lie : CI mX9_lie := ⟨mT 535 (by decide +kernel) rfl, mT 536 (by decide +kernel) rfl⟩
abbrev mX9_gainBySaying : MM := (yX9_gainBySaying, cX9_gainBySaying, 3, (some .int))
set_option maxRecDepth 100000 in
theorem vX9_gainBySaying : CV mX9_gainBySaying 2 := ⟨mT 541 rfl rfl, mT 54 (by decide +kernel) rfl, ⟨by decide +kernel, by decide +kernel, by decide +kernel⟩, by decide⟩
theorem kX9_gainBySaying : CI mX9_gainBySaying := ⟨mT 540 (by decide +kernel) rfl, mT 12 (by decide +kernel) rfl⟩
abbrev mX9_game : MM := (yX9_game, cX9_game, 4, (some .int))
set_option maxRecDepth 100000 in
theorem vX9_game : CV mX9_game 3 := ⟨mT 545 rfl rfl, mT 54 (by decide +kernel) rfl, ⟨by decide +kernel, by decide +kernel, by decide +kernel⟩, by decide⟩
theorem kX9_game : CI mX9_game := ⟨mT 543 (by decide +kernel) rfl, mT 544 (by decide +kernel) rfl⟩
abbrev mX1_play : MM := (yX1_play, cX1_play, 7, none)
set_option maxRecDepth 100000 in
theorem vX1_play : CV mX1_play 4 := ⟨mT 549 rfl rfl, mT 58 (by decide +kernel) rfl, ⟨by decide +kernel, by decide +kernel, by decide +kernel⟩, by decide⟩
theorem kX1_play : CI mX1_play := ⟨mT 547 (by decide +kernel) rfl, mT 548 (by decide +kernel) rfl⟩
abbrev mX1_findRests : MM := (yX1_findRests, cX1_findRests, 3, none)
set_option maxRecDepth 100000 in
theorem vX1_findRests : CV mX1_findRests 0 := ⟨mT 555 rfl rfl, mT 58 (by decide +kernel) rfl, ⟨by decide +kernel, by decide +kernel, by decide +kernel⟩, by decide⟩
theorem kX1_findRests : CI mX1_findRests := ⟨mT 553 (by decide +kernel) rfl, mT 554 (by decide +kernel) rfl⟩
abbrev mX1_isRest : MM := (yX1_isRest, cX1_isRest, 4, (some .boolean))
set_option maxRecDepth 100000 in
theorem vX1_isRest : CV mX1_isRest 2 := ⟨mT 559 rfl rfl, mT 58 (by decide +kernel) rfl, ⟨by decide +kernel, by decide +kernel, by decide +kernel⟩, by decide⟩
theorem kX1_isRest : CI mX1_isRest := ⟨mT 558 (by decide +kernel) rfl, mT 13 (by decide +kernel) rfl⟩
abbrev mX1_noteRest : MM := (yX1_noteRest, cX1_noteRest, 3, none)
set_option maxRecDepth 100000 in
theorem vX1_noteRest : CV mX1_noteRest 2 := ⟨mT 563 rfl rfl, mT 58 (by decide +kernel) rfl, ⟨by decide +kernel, by decide +kernel, by decide +kernel⟩, by decide⟩
theorem kX1_noteRest : CI mX1_noteRest := ⟨mT 562 (by decide +kernel) rfl, mT 14 (by decide +kernel) rfl⟩
abbrev mX9_rest : MM := (yX9_rest, cX9_rest, 3, (some .int))
set_option maxRecDepth 100000 in
theorem vX9_rest : CV mX9_rest 2 := ⟨mT 567 rfl rfl, mT 54 (by decide +kernel) rfl, ⟨by decide +kernel, by decide +kernel, by decide +kernel⟩, by decide⟩
theorem kX9_rest : CI mX9_rest := ⟨mT 565 (by decide +kernel) rfl, mT 566 (by decide +kernel) rfl⟩
abbrev mX3_search : MM := (yX3_search, cX3_search, 4, none)
set_option maxRecDepth 100000 in
theorem vX3_search : CV mX3_search 2 := ⟨mT 571 rfl rfl, mT 59 (by decide +kernel) rfl, ⟨by decide +kernel, by decide +kernel, by decide +kernel⟩, by decide⟩
theorem kX3_search : CI mX3_search := ⟨mT 569 (by decide +kernel) rfl, mT 570 (by decide +kernel) rfl⟩
abbrev mX3_mostWantOf : MM := (yX3_mostWantOf, cX3_mostWantOf, 4, (some .int))
set_option maxRecDepth 100000 in
theorem vX3_mostWantOf : CV mX3_mostWantOf 2 := ⟨mT 575 rfl rfl, mT 59 (by decide +kernel) rfl, ⟨by decide +kernel, by decide +kernel, by decide +kernel⟩, by decide⟩
theorem kX3_mostWantOf : Cond.static yX3_mostWantOf ∈ wsT := mT 574 (by decide +kernel) rfl
abbrev mX3_place : MM := (yX3_place, cX3_place, 6, none)
set_option maxRecDepth 100000 in
theorem vX3_place : CV mX3_place 5 := ⟨mT 579 rfl rfl, mT 59 (by decide +kernel) rfl, ⟨by decide +kernel, by decide +kernel, by decide +kernel⟩, by decide⟩
theorem kX3_place : Cond.static yX3_place ∈ wsT := mT 578 (by decide +kernel) rfl
abbrev mX5_search : MM := (yX5_search, cX5_search, 9, none)
set_option maxRecDepth 100000 in
theorem vX5_search : CV mX5_search 3 := ⟨mT 583 rfl rfl, mT 60 (by decide +kernel) rfl, ⟨by decide +kernel, by decide +kernel, by decide +kernel⟩, by decide⟩
theorem kX5_search : CI mX5_search := ⟨mT 581 (by decide +kernel) rfl, mT 582 (by decide +kernel) rfl⟩
abbrev mX5_countHeld : MM := (yX5_countHeld, cX5_countHeld, 4, none)
set_option maxRecDepth 100000 in
theorem vX5_countHeld : CV mX5_countHeld 2 := ⟨mT 587 rfl rfl, mT 60 (by decide +kernel) rfl, ⟨by decide +kernel, by decide +kernel, by decide +kernel⟩, by decide⟩
theorem kX5_countHeld : CI mX5_countHeld := ⟨mT 586 (by decide +kernel) rfl, mT 15 (by decide +kernel) rfl⟩
abbrev mX5_isBetter : MM := (yX5_isBetter, cX5_isBetter, 3, (some .boolean))
set_option maxRecDepth 100000 in
theorem vX5_isBetter : CV mX5_isBetter 2 := ⟨mT 592 rfl rfl, mT 60 (by decide +kernel) rfl, ⟨by decide +kernel, by decide +kernel, by decide +kernel⟩, by decide⟩
theorem kX5_isBetter : CI mX5_isBetter := ⟨mT 591 (by decide +kernel) rfl, mT 16 (by decide +kernel) rfl⟩
abbrev mX5_isAtRest : MM := (yX5_isAtRest, cX5_isAtRest, 4, (some .boolean))
set_option maxRecDepth 100000 in
theorem vX5_isAtRest : CV mX5_isAtRest 2 := ⟨mT 596 rfl rfl, mT 60 (by decide +kernel) rfl, ⟨by decide +kernel, by decide +kernel, by decide +kernel⟩, by decide⟩
theorem kX5_isAtRest : CI mX5_isAtRest := ⟨mT 595 (by decide +kernel) rfl, mT 17 (by decide +kernel) rfl⟩
abbrev mX5_isContent : MM := (yX5_isContent, cX5_isContent, 6, (some .boolean))
set_option maxRecDepth 100000 in
theorem vX5_isContent : CV mX5_isContent 3 := ⟨mT 600 rfl rfl, mT 60 (by decide +kernel) rfl, ⟨by decide +kernel, by decide +kernel, by decide +kernel⟩, by decide⟩
theorem kX5_isContent : CI mX5_isContent := ⟨mT 599 (by decide +kernel) rfl, mT 18 (by decide +kernel) rfl⟩
abbrev mX5_noteAsked : MM := (yX5_noteAsked, cX5_noteAsked, 2, none)
set_option maxRecDepth 100000 in
theorem vX5_noteAsked : CV mX5_noteAsked 1 := ⟨mT 604 rfl rfl, mT 60 (by decide +kernel) rfl, ⟨by decide +kernel, by decide +kernel, by decide +kernel⟩, by decide⟩
theorem kX5_noteAsked : CI mX5_noteAsked := ⟨mT 603 (by decide +kernel) rfl, mT 19 (by decide +kernel) rfl⟩
abbrev mX9_joint : MM := (yX9_joint, cX9_joint, 2, (some .int))
set_option maxRecDepth 100000 in
theorem vX9_joint : CV mX9_joint 1 := ⟨mT 609 rfl rfl, mT 54 (by decide +kernel) rfl, ⟨by decide +kernel, by decide +kernel, by decide +kernel⟩, by decide⟩
theorem kX9_joint : CI mX9_joint := ⟨mT 607 (by decide +kernel) rfl, mT 608 (by decide +kernel) rfl⟩
abbrev mX9_pay : MM := (yX9_pay, cX9_pay, 3, (some .int))
set_option maxRecDepth 100000 in
theorem vX9_pay : CV mX9_pay 1 := ⟨mT 613 rfl rfl, mT 54 (by decide +kernel) rfl, ⟨by decide +kernel, by decide +kernel, by decide +kernel⟩, by decide⟩
theorem kX9_pay : CI mX9_pay := ⟨mT 611 (by decide +kernel) rfl, mT 612 (by decide +kernel) rfl⟩
abbrev mX9_seen : MM := (yX9_seen, cX9_seen, 3, (some .int))
set_option maxRecDepth 100000 in
theorem vX9_seen : CV mX9_seen 2 := ⟨mT 617 rfl rfl, mT 54 (by decide +kernel) rfl, ⟨by decide +kernel, by decide +kernel, by decide +kernel⟩, by decide⟩
theorem kX9_seen : CI mX9_seen := ⟨mT 615 (by decide +kernel) rfl, mT 616 (by decide +kernel) rfl⟩
abbrev mX7_add : MM := (yX7_add, cX7_add, 3, none)
set_option maxRecDepth 100000 in
theorem vX7_add : CV mX7_add 2 := ⟨mT 621 rfl rfl, mT 61 (by decide +kernel) rfl, ⟨by decide +kernel, by decide +kernel, by decide +kernel⟩, by decide⟩
theorem kX7_add : CI mX7_add := ⟨mT 619 (by decide +kernel) rfl, mT 620 (by decide +kernel) rfl⟩
abbrev mX9_forget : MM := (yX9_forget, cX9_forget, 2, (some .int))
set_option maxRecDepth 100000 in
theorem vX9_forget : CV mX9_forget 0 := ⟨mT 625 rfl rfl, mT 54 (by decide +kernel) rfl, ⟨by decide +kernel, by decide +kernel, by decide +kernel⟩, by decide⟩
theorem kX9_forget : CI mX9_forget := ⟨mT 623 (by decide +kernel) rfl, mT 624 (by decide +kernel) rfl⟩
abbrev mX9_cousins : MM := (yX9_cousins, cX9_cousins, 3, (some .int))
set_option maxRecDepth 100000 in
theorem vX9_cousins : CV mX9_cousins 0 := ⟨mT 629 rfl rfl, mT 54 (by decide +kernel) rfl, ⟨by decide +kernel, by decide +kernel, by decide +kernel⟩, by decide⟩
theorem kX9_cousins : CI mX9_cousins := ⟨mT 627 (by decide +kernel) rfl, mT 628 (by decide +kernel) rfl⟩
abbrev mX9_isAsSeenWithout : MM := (yX9_isAsSeenWithout, cX9_isAsSeenWithout, 2, (some .boolean))
set_option maxRecDepth 100000 in
theorem vX9_isAsSeenWithout : CV mX9_isAsSeenWithout 1 := ⟨mT 633 rfl rfl, mT 54 (by decide +kernel) rfl, ⟨by decide +kernel, by decide +kernel, by decide +kernel⟩, by decide⟩
theorem kX9_isAsSeenWithout : CI mX9_isAsSeenWithout := ⟨mT 632 (by decide +kernel) rfl, mT 20 (by decide +kernel) rfl⟩
abbrev mX7_fit : MM := (yX7_fit, cX7_fit, 4, (some .boolean))
set_option maxRecDepth 100000 in
theorem vX7_fit : CV mX7_fit 2 := ⟨mT 637 rfl rfl, mT 61 (by decide +kernel) rfl, ⟨by decide +kernel, by decide +kernel, by decide +kernel⟩, by decide⟩
theorem kX7_fit : CI mX7_fit := ⟨mT 635 (by decide +kernel) rfl, mT 636 (by decide +kernel) rfl⟩
abbrev mX9_span : MM := (yX9_span, cX9_span, 4, (some .int))
set_option maxRecDepth 100000 in
theorem vX9_span : CV mX9_span 3 := ⟨mT 642 rfl rfl, mT 54 (by decide +kernel) rfl, ⟨by decide +kernel, by decide +kernel, by decide +kernel⟩, by decide⟩
theorem kX9_span : CI mX9_span := ⟨mT 640 (by decide +kernel) rfl, mT 641 (by decide +kernel) rfl⟩
abbrev mX2_spanFrom : MM := (yX2_spanFrom, cX2_spanFrom, 4, (some .int))
set_option maxRecDepth 100000 in
theorem vX2_spanFrom : CV mX2_spanFrom 3 := ⟨mT 646 rfl rfl, mT 57 (by decide +kernel) rfl, ⟨by decide +kernel, by decide +kernel, by decide +kernel⟩, by decide⟩
theorem kX2_spanFrom : CI mX2_spanFrom := ⟨mT 644 (by decide +kernel) rfl, mT 645 (by decide +kernel) rfl⟩
abbrev mX2_hadGotAnother : MM := (yX2_hadGotAnother, cX2_hadGotAnother, 3, (some .boolean))
set_option maxRecDepth 100000 in
theorem vX2_hadGotAnother : CV mX2_hadGotAnother 2 := ⟨mT 650 rfl rfl, mT 57 (by decide +kernel) rfl, ⟨by decide +kernel, by decide +kernel, by decide +kernel⟩, by decide⟩
theorem kX2_hadGotAnother : CI mX2_hadGotAnother := ⟨mT 649 (by decide +kernel) rfl, mT 21 (by decide +kernel) rfl⟩
abbrev mX2_firstCallOut : MM := (yX2_firstCallOut, cX2_firstCallOut, 6, (some .int))
set_option maxRecDepth 100000 in
theorem vX2_firstCallOut : CV mX2_firstCallOut 3 := ⟨mT 654 rfl rfl, mT 57 (by decide +kernel) rfl, ⟨by decide +kernel, by decide +kernel, by decide +kernel⟩, by decide⟩
theorem kX2_firstCallOut : CI mX2_firstCallOut := ⟨mT 653 (by decide +kernel) rfl, mT 22 (by decide +kernel) rfl⟩
abbrev mX2_spanTo : MM := (yX2_spanTo, cX2_spanTo, 5, (some .int))
set_option maxRecDepth 100000 in
theorem vX2_spanTo : CV mX2_spanTo 3 := ⟨mT 658 rfl rfl, mT 57 (by decide +kernel) rfl, ⟨by decide +kernel, by decide +kernel, by decide +kernel⟩, by decide⟩
theorem kX2_spanTo : CI mX2_spanTo := ⟨mT 656 (by decide +kernel) rfl, mT 657 (by decide +kernel) rfl⟩
abbrev mX9_year : MM := (yX9_year, cX9_year, 3, (some .int))
set_option maxRecDepth 100000 in
theorem vX9_year : CV mX9_year 2 := ⟨mT 662 rfl rfl, mT 54 (by decide +kernel) rfl, ⟨by decide +kernel, by decide +kernel, by decide +kernel⟩, by decide⟩
theorem kX9_year : CI mX9_year := ⟨mT 660 (by decide +kernel) rfl, mT 661 (by decide +kernel) rfl⟩
abbrev mX4_drawWants : MM := (yX4_drawWants, cX4_drawWants, 6, none)
set_option maxRecDepth 100000 in
theorem vX4_drawWants : CV mX4_drawWants 1 := ⟨mT 666 rfl rfl, mT 56 (by decide +kernel) rfl, ⟨by decide +kernel, by decide +kernel, by decide +kernel⟩, by decide⟩
theorem kX4_drawWants : CI mX4_drawWants := ⟨mT 664 (by decide +kernel) rfl, mT 665 (by decide +kernel) rfl⟩
abbrev mX2_mastersAlone : MM := (yX2_mastersAlone, cX2_mastersAlone, 4, (some .int))
set_option maxRecDepth 100000 in
theorem vX2_mastersAlone : CV mX2_mastersAlone 1 := ⟨mT 675 rfl rfl, mT 57 (by decide +kernel) rfl, ⟨by decide +kernel, by decide +kernel, by decide +kernel⟩, by decide⟩
theorem kX2_mastersAlone : CI mX2_mastersAlone := ⟨mT 673 (by decide +kernel) rfl, mT 674 (by decide +kernel) rfl⟩
abbrev mX9_keep : MM := (yX9_keep, cX9_keep, 1, (some .int))
set_option maxRecDepth 100000 in
theorem vX9_keep : CV mX9_keep 0 := ⟨mT 680 rfl rfl, mT 54 (by decide +kernel) rfl, ⟨by decide +kernel, by decide +kernel, by decide +kernel⟩, by decide⟩
theorem kX9_keep : CI mX9_keep := ⟨mT 678 (by decide +kernel) rfl, mT 679 (by decide +kernel) rfl⟩
abbrev mX6_put : MM := (yX6_put, cX6_put, 2, none)
set_option maxRecDepth 100000 in
theorem vX6_put : CV mX6_put 1 := ⟨mT 684 rfl rfl, mT 63 (by decide +kernel) rfl, ⟨by decide +kernel, by decide +kernel, by decide +kernel⟩, by decide⟩
theorem kX6_put : CI mX6_put := ⟨mT 682 (by decide +kernel) rfl, mT 683 (by decide +kernel) rfl⟩
abbrev mX9_back : MM := (yX9_back, cX9_back, 1, (some .int))
set_option maxRecDepth 100000 in
theorem vX9_back : CV mX9_back 0 := ⟨mT 689 rfl rfl, mT 54 (by decide +kernel) rfl, ⟨by decide +kernel, by decide +kernel, by decide +kernel⟩, by decide⟩
theorem kX9_back : CI mX9_back := ⟨mT 687 (by decide +kernel) rfl, mT 688 (by decide +kernel) rfl⟩
abbrev mX6_takeInto : MM := (yX6_takeInto, cX6_takeInto, 2, none)
set_option maxRecDepth 100000 in
theorem vX6_takeInto : CV mX6_takeInto 1 := ⟨mT 693 rfl rfl, mT 63 (by decide +kernel) rfl, ⟨by decide +kernel, by decide +kernel, by decide +kernel⟩, by decide⟩
theorem kX6_takeInto : CI mX6_takeInto := ⟨mT 691 (by decide +kernel) rfl, mT 692 (by decide +kernel) rfl⟩
abbrev mX9_count : MM := (yX9_count, cX9_count, 2, (some .int))
set_option maxRecDepth 100000 in
theorem vX9_count : CV mX9_count 1 := ⟨mT 697 rfl rfl, mT 54 (by decide +kernel) rfl, ⟨by decide +kernel, by decide +kernel, by decide +kernel⟩, by decide⟩
theorem kX9_count : CI mX9_count := ⟨mT 695 (by decide +kernel) rfl, mT 696 (by decide +kernel) rfl⟩
abbrev mX10_noFair : MM := (yX10_noFair, cX10_noFair, 3, none)
set_option maxRecDepth 100000 in
theorem vX10_noFair : CV mX10_noFair 1 := ⟨mT 707 rfl rfl, mT 65 (by decide +kernel) rfl, ⟨by decide +kernel, by decide +kernel, by decide +kernel⟩, by decide⟩
theorem kX10_noFair : CI mX10_noFair := ⟨mT 706 (by decide +kernel) rfl, mT 23 (by decide +kernel) rfl⟩
abbrev mX10_write : MM := (yX10_write, cX10_write, 5, (some .int))
set_option maxRecDepth 100000 in
theorem vX10_write : CV mX10_write 2 := ⟨mT 799 rfl rfl, mT 65 (by decide +kernel) rfl, ⟨by decide +kernel, by decide +kernel, by decide +kernel⟩, by decide⟩
theorem kX10_write : CI mX10_write := ⟨mT 797 (by decide +kernel) rfl, mT 798 (by decide +kernel) rfl⟩
abbrev mX10_in : MM := (yX10_in, cX10_in, 6, (some .boolean))
set_option maxRecDepth 100000 in
theorem vX10_in : CV mX10_in 3 := ⟨mT 803 rfl rfl, mT 65 (by decide +kernel) rfl, ⟨by decide +kernel, by decide +kernel, by decide +kernel⟩, by decide⟩
theorem kX10_in : Cond.static yX10_in ∈ wsT := mT 802 (by decide +kernel) rfl
abbrev mX10_wipe : MM := (yX10_wipe, cX10_wipe, 2, (some .int))
set_option maxRecDepth 100000 in
theorem vX10_wipe : CV mX10_wipe 0 := ⟨mT 808 rfl rfl, mT 65 (by decide +kernel) rfl, ⟨by decide +kernel, by decide +kernel, by decide +kernel⟩, by decide⟩
theorem kX10_wipe : CI mX10_wipe := ⟨mT 806 (by decide +kernel) rfl, mT 807 (by decide +kernel) rfl⟩
abbrev mX10_fault : MM := (yX10_fault, cX10_fault, 1, (some .int))
set_option maxRecDepth 100000 in
theorem vX10_fault : CV mX10_fault 0 := ⟨mT 812 rfl rfl, mT 65 (by decide +kernel) rfl, ⟨by decide +kernel, by decide +kernel, by decide +kernel⟩, by decide⟩
theorem kX10_fault : CI mX10_fault := ⟨mT 810 (by decide +kernel) rfl, mT 811 (by decide +kernel) rfl⟩
abbrev mX10_readAll : MM := (yX10_readAll, cX10_readAll, 2, (some .int))
set_option maxRecDepth 100000 in
theorem vX10_readAll : CV mX10_readAll 0 := ⟨mT 816 rfl rfl, mT 65 (by decide +kernel) rfl, ⟨by decide +kernel, by decide +kernel, by decide +kernel⟩, by decide⟩
theorem kX10_readAll : CI mX10_readAll := ⟨mT 815 (by decide +kernel) rfl, mT 24 (by decide +kernel) rfl⟩
abbrev mX10_item : MM := (yX10_item, cX10_item, 2, (some .boolean))
set_option maxRecDepth 100000 in
theorem vX10_item : CV mX10_item 0 := ⟨mT 820 rfl rfl, mT 65 (by decide +kernel) rfl, ⟨by decide +kernel, by decide +kernel, by decide +kernel⟩, by decide⟩
theorem kX10_item : CI mX10_item := ⟨mT 819 (by decide +kernel) rfl, mT 25 (by decide +kernel) rfl⟩
abbrev mX10_byteAt : MM := (yX10_byteAt, cX10_byteAt, 2, (some .int))
set_option maxRecDepth 100000 in
theorem vX10_byteAt : CV mX10_byteAt 1 := ⟨mT 824 rfl rfl, mT 65 (by decide +kernel) rfl, ⟨by decide +kernel, by decide +kernel, by decide +kernel⟩, by decide⟩
theorem kX10_byteAt : CI mX10_byteAt := ⟨mT 823 (by decide +kernel) rfl, mT 26 (by decide +kernel) rfl⟩
abbrev mX10_figures : MM := (yX10_figures, cX10_figures, 5, (some .boolean))
set_option maxRecDepth 100000 in
theorem vX10_figures : CV mX10_figures 1 := ⟨mT 828 rfl rfl, mT 65 (by decide +kernel) rfl, ⟨by decide +kernel, by decide +kernel, by decide +kernel⟩, by decide⟩
theorem kX10_figures : CI mX10_figures := ⟨mT 827 (by decide +kernel) rfl, mT 27 (by decide +kernel) rfl⟩
abbrev mX10_lay : MM := (yX10_lay, cX10_lay, 2, (some .int))
set_option maxRecDepth 100000 in
theorem vX10_lay : CV mX10_lay 0 := ⟨mT 837 rfl rfl, mT 65 (by decide +kernel) rfl, ⟨by decide +kernel, by decide +kernel, by decide +kernel⟩, by decide⟩
theorem kX10_lay : CI mX10_lay := ⟨mT 835 (by decide +kernel) rfl, mT 836 (by decide +kernel) rfl⟩
abbrev mX10_copy : MM := (yX10_copy, cX10_copy, 4, none)
set_option maxRecDepth 100000 in
theorem vX10_copy : CV mX10_copy 2 := ⟨mT 841 rfl rfl, mT 65 (by decide +kernel) rfl, ⟨by decide +kernel, by decide +kernel, by decide +kernel⟩, by decide⟩
theorem kX10_copy : CI mX10_copy := ⟨mT 840 (by decide +kernel) rfl, mT 28 (by decide +kernel) rfl⟩
abbrev mX10_lad : MM := (yX10_lad, cX10_lad, 3, (some .int))
set_option maxRecDepth 100000 in
theorem vX10_lad : CV mX10_lad 2 := ⟨mT 845 rfl rfl, mT 65 (by decide +kernel) rfl, ⟨by decide +kernel, by decide +kernel, by decide +kernel⟩, by decide⟩
theorem kX10_lad : CI mX10_lad := ⟨mT 843 (by decide +kernel) rfl, mT 844 (by decide +kernel) rfl⟩
abbrev mX10_isLad : MM := (yX10_isLad, cX10_isLad, 2, (some .boolean))
set_option maxRecDepth 100000 in
theorem vX10_isLad : CV mX10_isLad 1 := ⟨mT 849 rfl rfl, mT 65 (by decide +kernel) rfl, ⟨by decide +kernel, by decide +kernel, by decide +kernel⟩, by decide⟩
theorem kX10_isLad : CI mX10_isLad := ⟨mT 848 (by decide +kernel) rfl, mT 29 (by decide +kernel) rfl⟩
abbrev mX10_goFair : MM := (yX10_goFair, cX10_goFair, 3, none)
set_option maxRecDepth 100000 in
theorem vX10_goFair : CV mX10_goFair 1 := ⟨mT 854 rfl rfl, mT 65 (by decide +kernel) rfl, ⟨by decide +kernel, by decide +kernel, by decide +kernel⟩, by decide⟩
theorem kX10_goFair : CI mX10_goFair := ⟨mT 853 (by decide +kernel) rfl, mT 30 (by decide +kernel) rfl⟩
abbrev mX10_begin : MM := (yX10_begin, cX10_begin, 3, none)
set_option maxRecDepth 100000 in
theorem vX10_begin : CV mX10_begin 1 := ⟨mT 858 rfl rfl, mT 65 (by decide +kernel) rfl, ⟨by decide +kernel, by decide +kernel, by decide +kernel⟩, by decide⟩
theorem kX10_begin : CI mX10_begin := ⟨mT 857 (by decide +kernel) rfl, mT 31 (by decide +kernel) rfl⟩
abbrev mX10_callOne : MM := (yX10_callOne, cX10_callOne, 3, none)
set_option maxRecDepth 100000 in
theorem vX10_callOne : CV mX10_callOne 2 := ⟨mT 862 rfl rfl, mT 65 (by decide +kernel) rfl, ⟨by decide +kernel, by decide +kernel, by decide +kernel⟩, by decide⟩
theorem kX10_callOne : CI mX10_callOne := ⟨mT 861 (by decide +kernel) rfl, mT 32 (by decide +kernel) rfl⟩
abbrev mX10_callBelow : MM := (yX10_callBelow, cX10_callBelow, 5, none)
set_option maxRecDepth 100000 in
theorem vX10_callBelow : CV mX10_callBelow 1 := ⟨mT 866 rfl rfl, mT 65 (by decide +kernel) rfl, ⟨by decide +kernel, by decide +kernel, by decide +kernel⟩, by decide⟩
theorem kX10_callBelow : CI mX10_callBelow := ⟨mT 865 (by decide +kernel) rfl, mT 33 (by decide +kernel) rfl⟩
abbrev mX10_inSet : MM := (yX10_inSet, cX10_inSet, 5, (some .int))
set_option maxRecDepth 100000 in
theorem vX10_inSet : CV mX10_inSet 2 := ⟨mT 870 rfl rfl, mT 65 (by decide +kernel) rfl, ⟨by decide +kernel, by decide +kernel, by decide +kernel⟩, by decide⟩
theorem kX10_inSet : CI mX10_inSet := ⟨mT 869 (by decide +kernel) rfl, mT 34 (by decide +kernel) rfl⟩
abbrev mX10_isIn : MM := (yX10_isIn, cX10_isIn, 4, (some .boolean))
set_option maxRecDepth 100000 in
theorem vX10_isIn : CV mX10_isIn 3 := ⟨mT 874 rfl rfl, mT 65 (by decide +kernel) rfl, ⟨by decide +kernel, by decide +kernel, by decide +kernel⟩, by decide⟩
theorem kX10_isIn : CI mX10_isIn := ⟨mT 873 (by decide +kernel) rfl, mT 35 (by decide +kernel) rfl⟩
abbrev mX10_boundOf : MM := (yX10_boundOf, cX10_boundOf, 5, (some .int))
set_option maxRecDepth 100000 in
theorem vX10_boundOf : CV mX10_boundOf 2 := ⟨mT 878 rfl rfl, mT 65 (by decide +kernel) rfl, ⟨by decide +kernel, by decide +kernel, by decide +kernel⟩, by decide⟩
theorem kX10_boundOf : CI mX10_boundOf := ⟨mT 877 (by decide +kernel) rfl, mT 36 (by decide +kernel) rfl⟩
abbrev mX10_bits : MM := (yX10_bits, cX10_bits, 3, (some .int))
set_option maxRecDepth 100000 in
theorem vX10_bits : CV mX10_bits 1 := ⟨mT 881 rfl rfl, mT 65 (by decide +kernel) rfl, ⟨by decide +kernel, by decide +kernel, by decide +kernel⟩, by decide⟩
theorem kX10_bits : Cond.static yX10_bits ∈ wsT := mT 880 (by decide +kernel) rfl
abbrev mX10_give : MM := (yX10_give, cX10_give, 5, none)
set_option maxRecDepth 100000 in
theorem vX10_give : CV mX10_give 3 := ⟨mT 885 rfl rfl, mT 65 (by decide +kernel) rfl, ⟨by decide +kernel, by decide +kernel, by decide +kernel⟩, by decide⟩
theorem kX10_give : CI mX10_give := ⟨mT 884 (by decide +kernel) rfl, mT 37 (by decide +kernel) rfl⟩
abbrev mX10_has : MM := (yX10_has, cX10_has, 2, (some .boolean))
set_option maxRecDepth 100000 in
theorem vX10_has : CV mX10_has 2 := ⟨mT 888 rfl rfl, mT 65 (by decide +kernel) rfl, ⟨by decide +kernel, by decide +kernel, by decide +kernel⟩, by decide⟩
theorem kX10_has : Cond.static yX10_has ∈ wsT := mT 887 (by decide +kernel) rfl
abbrev mX10_callAbove : MM := (yX10_callAbove, cX10_callAbove, 3, none)
set_option maxRecDepth 100000 in
theorem vX10_callAbove : CV mX10_callAbove 1 := ⟨mT 892 rfl rfl, mT 65 (by decide +kernel) rfl, ⟨by decide +kernel, by decide +kernel, by decide +kernel⟩, by decide⟩
theorem kX10_callAbove : CI mX10_callAbove := ⟨mT 891 (by decide +kernel) rfl, mT 38 (by decide +kernel) rfl⟩
abbrev mX10_callSealed : MM := (yX10_callSealed, cX10_callSealed, 3, none)
set_option maxRecDepth 100000 in
theorem vX10_callSealed : CV mX10_callSealed 1 := ⟨mT 896 rfl rfl, mT 65 (by decide +kernel) rfl, ⟨by decide +kernel, by decide +kernel, by decide +kernel⟩, by decide⟩
theorem kX10_callSealed : CI mX10_callSealed := ⟨mT 895 (by decide +kernel) rfl, mT 39 (by decide +kernel) rfl⟩
abbrev mX10_gainOf : MM := (yX10_gainOf, cX10_gainOf, 2, (some .int))
set_option maxRecDepth 100000 in
theorem vX10_gainOf : CV mX10_gainOf 1 := ⟨mT 900 rfl rfl, mT 65 (by decide +kernel) rfl, ⟨by decide +kernel, by decide +kernel, by decide +kernel⟩, by decide⟩
theorem kX10_gainOf : CI mX10_gainOf := ⟨mT 899 (by decide +kernel) rfl, mT 40 (by decide +kernel) rfl⟩
abbrev mX10_master : MM := (yX10_master, cX10_master, 3, (some .int))
set_option maxRecDepth 100000 in
theorem vX10_master : CV mX10_master 2 := ⟨mT 904 rfl rfl, mT 65 (by decide +kernel) rfl, ⟨by decide +kernel, by decide +kernel, by decide +kernel⟩, by decide⟩
theorem kX10_master : CI mX10_master := ⟨mT 902 (by decide +kernel) rfl, mT 903 (by decide +kernel) rfl⟩
abbrev mX10_isMaster : MM := (yX10_isMaster, cX10_isMaster, 2, (some .boolean))
set_option maxRecDepth 100000 in
theorem vX10_isMaster : CV mX10_isMaster 1 := ⟨mT 908 rfl rfl, mT 65 (by decide +kernel) rfl, ⟨by decide +kernel, by decide +kernel, by decide +kernel⟩, by decide⟩
theorem kX10_isMaster : CI mX10_isMaster := ⟨mT 907 (by decide +kernel) rfl, mT 41 (by decide +kernel) rfl⟩
abbrev mX10_ladsOf : MM := (yX10_ladsOf, cX10_ladsOf, 4, (some .int))
set_option maxRecDepth 100000 in
theorem vX10_ladsOf : CV mX10_ladsOf 1 := ⟨mT 912 rfl rfl, mT 65 (by decide +kernel) rfl, ⟨by decide +kernel, by decide +kernel, by decide +kernel⟩, by decide⟩
theorem kX10_ladsOf : CI mX10_ladsOf := ⟨mT 911 (by decide +kernel) rfl, mT 42 (by decide +kernel) rfl⟩
abbrev mX10_mostOf : MM := (yX10_mostOf, cX10_mostOf, 4, (some .int))
set_option maxRecDepth 100000 in
theorem vX10_mostOf : CV mX10_mostOf 1 := ⟨mT 916 rfl rfl, mT 65 (by decide +kernel) rfl, ⟨by decide +kernel, by decide +kernel, by decide +kernel⟩, by decide⟩
theorem kX10_mostOf : CI mX10_mostOf := ⟨mT 915 (by decide +kernel) rfl, mT 43 (by decide +kernel) rfl⟩
abbrev mX10_wants : MM := (yX10_wants, cX10_wants, 4, (some .int))
set_option maxRecDepth 100000 in
theorem vX10_wants : CV mX10_wants 3 := ⟨mT 920 rfl rfl, mT 65 (by decide +kernel) rfl, ⟨by decide +kernel, by decide +kernel, by decide +kernel⟩, by decide⟩
theorem kX10_wants : CI mX10_wants := ⟨mT 918 (by decide +kernel) rfl, mT 919 (by decide +kernel) rfl⟩
abbrev mX10_all : MM := (yX10_all, cX10_all, 4, (some .int))
set_option maxRecDepth 100000 in
theorem vX10_all : CV mX10_all 1 := ⟨mT 924 rfl rfl, mT 65 (by decide +kernel) rfl, ⟨by decide +kernel, by decide +kernel, by decide +kernel⟩, by decide⟩
theorem kX10_all : CI mX10_all := ⟨mT 922 (by decide +kernel) rfl, mT 923 (by decide +kernel) rfl⟩
abbrev mX10_limit : MM := (yX10_limit, cX10_limit, 4, (some .int))
set_option maxRecDepth 100000 in
theorem vX10_limit : CV mX10_limit 2 := ⟨mT 928 rfl rfl, mT 65 (by decide +kernel) rfl, ⟨by decide +kernel, by decide +kernel, by decide +kernel⟩, by decide⟩
theorem kX10_limit : CI mX10_limit := ⟨mT 926 (by decide +kernel) rfl, mT 927 (by decide +kernel) rfl⟩
abbrev mX10_note : MM := (yX10_note, cX10_note, 4, (some .int))
set_option maxRecDepth 100000 in
theorem vX10_note : CV mX10_note 2 := ⟨mT 932 rfl rfl, mT 65 (by decide +kernel) rfl, ⟨by decide +kernel, by decide +kernel, by decide +kernel⟩, by decide⟩
theorem kX10_note : CI mX10_note := ⟨mT 931 (by decide +kernel) rfl, mT 44 (by decide +kernel) rfl⟩
abbrev mX10_calls : MM := (yX10_calls, cX10_calls, 3, (some .int))
set_option maxRecDepth 100000 in
theorem vX10_calls : CV mX10_calls 1 := ⟨mT 936 rfl rfl, mT 65 (by decide +kernel) rfl, ⟨by decide +kernel, by decide +kernel, by decide +kernel⟩, by decide⟩
theorem kX10_calls : CI mX10_calls := ⟨mT 934 (by decide +kernel) rfl, mT 935 (by decide +kernel) rfl⟩
abbrev mX10_step : MM := (yX10_step, cX10_step, 3, (some .int))
set_option maxRecDepth 100000 in
theorem vX10_step : CV mX10_step 1 := ⟨mT 940 rfl rfl, mT 65 (by decide +kernel) rfl, ⟨by decide +kernel, by decide +kernel, by decide +kernel⟩, by decide⟩
theorem kX10_step : CI mX10_step := ⟨mT 938 (by decide +kernel) rfl, mT 939 (by decide +kernel) rfl⟩
abbrev mX10_undo : MM := (yX10_undo, cX10_undo, 3, (some .int))
set_option maxRecDepth 100000 in
theorem vX10_undo : CV mX10_undo 0 := ⟨mT 944 rfl rfl, mT 65 (by decide +kernel) rfl, ⟨by decide +kernel, by decide +kernel, by decide +kernel⟩, by decide⟩
theorem kX10_undo : CI mX10_undo := ⟨mT 942 (by decide +kernel) rfl, mT 943 (by decide +kernel) rfl⟩
abbrev mX10_lie : MM := (yX10_lie, cX10_lie, 9, (some .int))
set_option maxRecDepth 100000 in
theorem vX10_lie : CV mX10_lie 2 := ⟨mT 948 rfl rfl, mT 65 (by decide +kernel) rfl, ⟨by decide +kernel, by decide +kernel, by decide +kernel⟩, by decide⟩
theorem kX10_lie : CI mX10_lie := ⟨mT 946 (by decide +kernel) rfl, mT 947 (by decide +kernel) rfl⟩
abbrev mX10_game : MM := (yX10_game, cX10_game, 11, (some .int))
set_option maxRecDepth 100000 in
theorem vX10_game : CV mX10_game 3 := ⟨mT 952 rfl rfl, mT 65 (by decide +kernel) rfl, ⟨by decide +kernel, by decide +kernel, by decide +kernel⟩, by decide⟩
theorem kX10_game : CI mX10_game := ⟨mT 950 (by decide +kernel) rfl, mT 951 (by decide +kernel) rfl⟩
abbrev mX10_rest : MM := (yX10_rest, cX10_rest, 9, (some .int))
set_option maxRecDepth 100000 in
theorem vX10_rest : CV mX10_rest 2 := ⟨mT 956 rfl rfl, mT 65 (by decide +kernel) rfl, ⟨by decide +kernel, by decide +kernel, by decide +kernel⟩, by decide⟩
theorem kX10_rest : CI mX10_rest := ⟨mT 954 (by decide +kernel) rfl, mT 955 (by decide +kernel) rfl⟩
abbrev mX10_takePrices : MM := (yX10_takePrices, cX10_takePrices, 5, (some .int))
set_option maxRecDepth 100000 in
theorem vX10_takePrices : CV mX10_takePrices 1 := ⟨mT 960 rfl rfl, mT 65 (by decide +kernel) rfl, ⟨by decide +kernel, by decide +kernel, by decide +kernel⟩, by decide⟩
theorem kX10_takePrices : CI mX10_takePrices := ⟨mT 959 (by decide +kernel) rfl, mT 45 (by decide +kernel) rfl⟩
abbrev mX10_canRest : MM := (yX10_canRest, cX10_canRest, 2, (some .boolean))
set_option maxRecDepth 100000 in
theorem vX10_canRest : CV mX10_canRest 0 := ⟨mT 964 rfl rfl, mT 65 (by decide +kernel) rfl, ⟨by decide +kernel, by decide +kernel, by decide +kernel⟩, by decide⟩
theorem kX10_canRest : CI mX10_canRest := ⟨mT 963 (by decide +kernel) rfl, mT 46 (by decide +kernel) rfl⟩
abbrev mX10_codes : MM := (yX10_codes, cX10_codes, 3, (some .int))
set_option maxRecDepth 100000 in
theorem vX10_codes : CV mX10_codes 0 := ⟨mT 968 rfl rfl, mT 65 (by decide +kernel) rfl, ⟨by decide +kernel, by decide +kernel, by decide +kernel⟩, by decide⟩
theorem kX10_codes : CI mX10_codes := ⟨mT 967 (by decide +kernel) rfl, mT 47 (by decide +kernel) rfl⟩
abbrev mX10_seatAll : MM := (yX10_seatAll, cX10_seatAll, 5, (some .boolean))
set_option maxRecDepth 100000 in
theorem vX10_seatAll : CV mX10_seatAll 1 := ⟨mT 972 rfl rfl, mT 65 (by decide +kernel) rfl, ⟨by decide +kernel, by decide +kernel, by decide +kernel⟩, by decide⟩
theorem kX10_seatAll : CI mX10_seatAll := ⟨mT 971 (by decide +kernel) rfl, mT 48 (by decide +kernel) rfl⟩
abbrev mX10_isAtRest : MM := (yX10_isAtRest, cX10_isAtRest, 5, (some .boolean))
set_option maxRecDepth 100000 in
theorem vX10_isAtRest : CV mX10_isAtRest 0 := ⟨mT 976 rfl rfl, mT 65 (by decide +kernel) rfl, ⟨by decide +kernel, by decide +kernel, by decide +kernel⟩, by decide⟩
theorem kX10_isAtRest : CI mX10_isAtRest := ⟨mT 975 (by decide +kernel) rfl, mT 49 (by decide +kernel) rfl⟩
abbrev mX10_joint : MM := (yX10_joint, cX10_joint, 2, (some .int))
set_option maxRecDepth 100000 in
theorem vX10_joint : CV mX10_joint 1 := ⟨mT 980 rfl rfl, mT 65 (by decide +kernel) rfl, ⟨by decide +kernel, by decide +kernel, by decide +kernel⟩, by decide⟩
theorem kX10_joint : CI mX10_joint := ⟨mT 978 (by decide +kernel) rfl, mT 979 (by decide +kernel) rfl⟩
abbrev mX10_bestWay : MM := (yX10_bestWay, cX10_bestWay, 7, (some .int))
set_option maxRecDepth 100000 in
theorem vX10_bestWay : CV mX10_bestWay 1 := ⟨mT 984 rfl rfl, mT 65 (by decide +kernel) rfl, ⟨by decide +kernel, by decide +kernel, by decide +kernel⟩, by decide⟩
theorem kX10_bestWay : CI mX10_bestWay := ⟨mT 983 (by decide +kernel) rfl, mT 50 (by decide +kernel) rfl⟩
abbrev mX10_sumOf : MM := (yX10_sumOf, cX10_sumOf, 4, (some .int))
set_option maxRecDepth 100000 in
theorem vX10_sumOf : CV mX10_sumOf 1 := ⟨mT 988 rfl rfl, mT 65 (by decide +kernel) rfl, ⟨by decide +kernel, by decide +kernel, by decide +kernel⟩, by decide⟩
theorem kX10_sumOf : CI mX10_sumOf := ⟨mT 987 (by decide +kernel) rfl, mT 51 (by decide +kernel) rfl⟩
abbrev mX10_pay : MM := (yX10_pay, cX10_pay, 3, (some .int))
set_option maxRecDepth 100000 in
theorem vX10_pay : CV mX10_pay 1 := ⟨mT 992 rfl rfl, mT 65 (by decide +kernel) rfl, ⟨by decide +kernel, by decide +kernel, by decide +kernel⟩, by decide⟩
theorem kX10_pay : CI mX10_pay := ⟨mT 990 (by decide +kernel) rfl, mT 991 (by decide +kernel) rfl⟩
abbrev mX10_seen : MM := (yX10_seen, cX10_seen, 3, (some .int))
set_option maxRecDepth 100000 in
theorem vX10_seen : CV mX10_seen 2 := ⟨mT 996 rfl rfl, mT 65 (by decide +kernel) rfl, ⟨by decide +kernel, by decide +kernel, by decide +kernel⟩, by decide⟩
theorem kX10_seen : CI mX10_seen := ⟨mT 994 (by decide +kernel) rfl, mT 995 (by decide +kernel) rfl⟩
abbrev mX10_forget : MM := (yX10_forget, cX10_forget, 2, (some .int))
set_option maxRecDepth 100000 in
theorem vX10_forget : CV mX10_forget 0 := ⟨mT 1000 rfl rfl, mT 65 (by decide +kernel) rfl, ⟨by decide +kernel, by decide +kernel, by decide +kernel⟩, by decide⟩
theorem kX10_forget : CI mX10_forget := ⟨mT 998 (by decide +kernel) rfl, mT 999 (by decide +kernel) rfl⟩
abbrev mX10_cousins : MM := (yX10_cousins, cX10_cousins, 3, (some .int))
set_option maxRecDepth 100000 in
theorem vX10_cousins : CV mX10_cousins 0 := ⟨mT 1004 rfl rfl, mT 65 (by decide +kernel) rfl, ⟨by decide +kernel, by decide +kernel, by decide +kernel⟩, by decide⟩
theorem kX10_cousins : CI mX10_cousins := ⟨mT 1002 (by decide +kernel) rfl, mT 1003 (by decide +kernel) rfl⟩
abbrev mX10_isSeenSo : MM := (yX10_isSeenSo, cX10_isSeenSo, 4, (some .boolean))
set_option maxRecDepth 100000 in
theorem vX10_isSeenSo : CV mX10_isSeenSo 1 := ⟨mT 1008 rfl rfl, mT 65 (by decide +kernel) rfl, ⟨by decide +kernel, by decide +kernel, by decide +kernel⟩, by decide⟩
theorem kX10_isSeenSo : CI mX10_isSeenSo := ⟨mT 1007 (by decide +kernel) rfl, mT 52 (by decide +kernel) rfl⟩
abbrev mX10_span : MM := (yX10_span, cX10_span, 7, (some .int))
set_option maxRecDepth 100000 in
theorem vX10_span : CV mX10_span 3 := ⟨mT 1012 rfl rfl, mT 65 (by decide +kernel) rfl, ⟨by decide +kernel, by decide +kernel, by decide +kernel⟩, by decide⟩
theorem kX10_span : CI mX10_span := ⟨mT 1010 (by decide +kernel) rfl, mT 1011 (by decide +kernel) rfl⟩
abbrev mX10_year : MM := (yX10_year, cX10_year, 6, (some .int))
set_option maxRecDepth 100000 in
theorem vX10_year : CV mX10_year 2 := ⟨mT 1016 rfl rfl, mT 65 (by decide +kernel) rfl, ⟨by decide +kernel, by decide +kernel, by decide +kernel⟩, by decide⟩
theorem kX10_year : CI mX10_year := ⟨mT 1014 (by decide +kernel) rfl, mT 1015 (by decide +kernel) rfl⟩
abbrev mX10_keep : MM := (yX10_keep, cX10_keep, 1, (some .int))
set_option maxRecDepth 100000 in
theorem vX10_keep : CV mX10_keep 0 := ⟨mT 1026 rfl rfl, mT 65 (by decide +kernel) rfl, ⟨by decide +kernel, by decide +kernel, by decide +kernel⟩, by decide⟩
theorem kX10_keep : CI mX10_keep := ⟨mT 1024 (by decide +kernel) rfl, mT 1025 (by decide +kernel) rfl⟩
abbrev mX10_back : MM := (yX10_back, cX10_back, 1, (some .int))
set_option maxRecDepth 100000 in
theorem vX10_back : CV mX10_back 0 := ⟨mT 1030 rfl rfl, mT 65 (by decide +kernel) rfl, ⟨by decide +kernel, by decide +kernel, by decide +kernel⟩, by decide⟩
theorem kX10_back : CI mX10_back := ⟨mT 1028 (by decide +kernel) rfl, mT 1029 (by decide +kernel) rfl⟩
abbrev mX10_count : MM := (yX10_count, cX10_count, 2, (some .int))
set_option maxRecDepth 100000 in
theorem vX10_count : CV mX10_count 1 := ⟨mT 1034 rfl rfl, mT 65 (by decide +kernel) rfl, ⟨by decide +kernel, by decide +kernel, by decide +kernel⟩, by decide⟩
theorem kX10_count : CI mX10_count := ⟨mT 1032 (by decide +kernel) rfl, mT 1033 (by decide +kernel) rfl⟩
theorem lkL_9 : Cond.methodLink RL 9 yX9_init ∈ wsT := mT 70 (by decide +kernel) rfl
theorem lk9_3 : Cond.methodLink RX9 3 objectInit ∈ wsT := mT 73 (by decide +kernel) rfl
theorem lk9_11 : Cond.methodLink RX9 11 yX8_init ∈ wsT := mT 78 (by decide +kernel) rfl
theorem lk8_3 : Cond.methodLink RX8 3 objectInit ∈ wsT := mT 81 (by decide +kernel) rfl
theorem lk9_18 : Cond.methodLink RX9 18 yX4_init ∈ wsT := mT 97 (by decide +kernel) rfl
theorem lk4_3 : Cond.methodLink RX4 3 objectInit ∈ wsT := mT 100 (by decide +kernel) rfl
theorem lk9_28 : Cond.methodLink RX9 28 yX2_init ∈ wsT := mT 146 (by decide +kernel) rfl
theorem lk2_3 : Cond.methodLink RX2 3 objectInit ∈ wsT := mT 149 (by decide +kernel) rfl
theorem lk9_35 : Cond.methodLink RX9 35 yX1_init ∈ wsT := mT 167 (by decide +kernel) rfl
theorem lk1_3 : Cond.methodLink RX1 3 objectInit ∈ wsT := mT 170 (by decide +kernel) rfl
theorem lk9_42 : Cond.methodLink RX9 42 yX3_init ∈ wsT := mT 193 (by decide +kernel) rfl
theorem lk3_3 : Cond.methodLink RX3 3 objectInit ∈ wsT := mT 196 (by decide +kernel) rfl
theorem lk9_49 : Cond.methodLink RX9 49 yX5_init ∈ wsT := mT 217 (by decide +kernel) rfl
theorem lk5_3 : Cond.methodLink RX5 3 objectInit ∈ wsT := mT 220 (by decide +kernel) rfl
theorem lk9_56 : Cond.methodLink RX9 56 yX7_init ∈ wsT := mT 242 (by decide +kernel) rfl
theorem lk7_3 : Cond.methodLink RX7 3 objectInit ∈ wsT := mT 245 (by decide +kernel) rfl
theorem lk9_63 : Cond.methodLink RX9 63 yX0_init ∈ wsT := mT 259 (by decide +kernel) rfl
theorem lk0_3 : Cond.methodLink RX0 3 objectInit ∈ wsT := mT 262 (by decide +kernel) rfl
theorem lk9_70 : Cond.methodLink RX9 70 yX6_init ∈ wsT := mT 276 (by decide +kernel) rfl
theorem lk6_3 : Cond.methodLink RX6 3 objectInit ∈ wsT := mT 279 (by decide +kernel) rfl
theorem lk9_75 : Cond.methodLink RX9 75 yX4_clear ∈ wsT := mT 289 (by decide +kernel) rfl
theorem lk9_78 : Cond.methodLink RX9 78 yX4_addMaster ∈ wsT := mT 293 (by decide +kernel) rfl
theorem lk9_82 : Cond.methodLink RX9 82 yX4_addLad ∈ wsT := mT 300 (by decide +kernel) rfl
theorem lk4_43 : Cond.methodLink RX4 43 yJ7_fill_53178 ∈ wsT := mT 304 (by decide +kernel) rfl
theorem lk9_86 : Cond.methodLink RX9 86 yX4_addWant ∈ wsT := mT 307 (by decide +kernel) rfl
theorem lk4_49 : Cond.methodLink RX4 49 yX4_hasLad ∈ wsT := mT 311 (by decide +kernel) rfl
theorem lk4_53 : Cond.methodLink RX4 53 yX4_hasMaster ∈ wsT := mT 315 (by decide +kernel) rfl
theorem lkL_15 : Cond.methodLink RL 15 yX9_write ∈ wsT := mT 350 (by decide +kernel) rfl
theorem lk9_90 : Cond.methodLink RX9 90 yX9_isWithin ∈ wsT := mT 354 (by decide +kernel) rfl
theorem lk9_97 : Cond.methodLink RX9 97 yX8_append ∈ wsT := mT 355 (by decide +kernel) rfl
theorem lkL_20 : Cond.methodLink RL 20 yX9_wipe ∈ wsT := mT 359 (by decide +kernel) rfl
theorem lkL_25 : Cond.methodLink RL 25 yX9_fault ∈ wsT := mT 363 (by decide +kernel) rfl
theorem lk9_101 : Cond.methodLink RX9 101 yX8_readInto ∈ wsT := mT 367 (by decide +kernel) rfl
theorem lk8_23 : Cond.methodLink RX8 23 yX4_clear ∈ wsT := mT 371 (by decide +kernel) rfl
theorem lk8_28 : Cond.methodLink RX8 28 yX8_numbersOf ∈ wsT := mT 372 (by decide +kernel) rfl
theorem lk8_32 : Cond.methodLink RX8 32 yX8_readNumbers ∈ wsT := mT 375 (by decide +kernel) rfl
theorem lk8_58 : Cond.methodLink RX8 58 yX8_figuresAt ∈ wsT := mT 379 (by decide +kernel) rfl
theorem lk8_68 : Cond.methodLink RX8 68 yX8_isFigureAt ∈ wsT := mT 383 (by decide +kernel) rfl
theorem lk8_61 : Cond.methodLink RX8 61 yX8_numberAt ∈ wsT := mT 387 (by decide +kernel) rfl
theorem lk8_64 : Cond.methodLink RX8 64 yX8_isSignAt ∈ wsT := mT 391 (by decide +kernel) rfl
theorem lk8_36 : Cond.methodLink RX8 36 yX8_tell ∈ wsT := mT 395 (by decide +kernel) rfl
theorem lk8_40 : Cond.methodLink RX8 40 yX4_addMaster ∈ wsT := mT 399 (by decide +kernel) rfl
theorem lk8_44 : Cond.methodLink RX8 44 yX4_addLad ∈ wsT := mT 400 (by decide +kernel) rfl
theorem lk8_48 : Cond.methodLink RX8 48 yX4_addWant ∈ wsT := mT 401 (by decide +kernel) rfl
theorem lk8_52 : Cond.methodLink RX8 52 yX4_tellCalls ∈ wsT := mT 402 (by decide +kernel) rfl
theorem lk8_55 : Cond.methodLink RX8 55 yX4_tellStep ∈ wsT := mT 406 (by decide +kernel) rfl
theorem lkL_29 : Cond.methodLink RL 29 yX9_lay ∈ wsT := mT 410 (by decide +kernel) rfl
theorem lk9_111 : Cond.methodLink RX9 111 yX4_copyFrom ∈ wsT := mT 414 (by decide +kernel) rfl
theorem lk4_33 : Cond.methodLink RX4 33 arraycopyName ∈ wsT := mT 418 (by decide +kernel) rfl
theorem lkL_33 : Cond.methodLink RL 33 yX9_lad ∈ wsT := mT 421 (by decide +kernel) rfl
theorem lk9_120 : Cond.methodLink RX9 120 yX4_hasLad ∈ wsT := mT 425 (by decide +kernel) rfl
theorem lk9_130 : Cond.methodLink RX9 130 yX2_hold ∈ wsT := mT 426 (by decide +kernel) rfl
theorem lk2_24 : Cond.methodLink RX2 24 yJ7_fill_53178 ∈ wsT := mT 430 (by decide +kernel) rfl
theorem lk2_39 : Cond.methodLink RX2 39 yX4_boundOf ∈ wsT := mT 431 (by decide +kernel) rfl
theorem lk4_62 : Cond.methodLink RX4 62 Lib.Math.min.name ∈ wsT := mT 435 (by decide +kernel) rfl
theorem lk2_46 : Cond.methodLink RX2 46 yX2_callFromBelow ∈ wsT := mT 438 (by decide +kernel) rfl
theorem lk2_50 : Cond.methodLink RX2 50 yX4_stride ∈ wsT := mT 442 (by decide +kernel) rfl
theorem lk4_56 : Cond.methodLink RX4 56 Lib.Math.max.name ∈ wsT := mT 446 (by decide +kernel) rfl
theorem lk2_58 : Cond.methodLink RX2 58 yX2_howManyIn ∈ wsT := mT 449 (by decide +kernel) rfl
theorem lk2_69 : Cond.methodLink RX2 69 yX2_isIn ∈ wsT := mT 453 (by decide +kernel) rfl
theorem lk2_65 : Cond.methodLink RX2 65 yX2_hire ∈ wsT := mT 457 (by decide +kernel) rfl
theorem lk2_54 : Cond.methodLink RX2 54 yX2_callFromAbove ∈ wsT := mT 461 (by decide +kernel) rfl
theorem lk9_140 : Cond.methodLink RX9 140 yX2_gainOf ∈ wsT := mT 465 (by decide +kernel) rfl
theorem lkL_38 : Cond.methodLink RL 38 yX9_master ∈ wsT := mT 469 (by decide +kernel) rfl
theorem lk9_144 : Cond.methodLink RX9 144 yX4_hasMaster ∈ wsT := mT 473 (by decide +kernel) rfl
theorem lk9_150 : Cond.methodLink RX9 150 yX2_ladsOf ∈ wsT := mT 474 (by decide +kernel) rfl
theorem lk9_153 : Cond.methodLink RX9 153 yX2_mostYearsOf ∈ wsT := mT 478 (by decide +kernel) rfl
theorem lk2_77 : Cond.methodLink RX2 77 Lib.Math.max.name ∈ wsT := mT 482 (by decide +kernel) rfl
theorem lkL_42 : Cond.methodLink RL 42 yX9_wants ∈ wsT := mT 483 (by decide +kernel) rfl
theorem lk9_160 : Cond.methodLink RX9 160 yX4_boundOf ∈ wsT := mT 487 (by decide +kernel) rfl
theorem lkL_47 : Cond.methodLink RL 47 yX9_all ∈ wsT := mT 488 (by decide +kernel) rfl
theorem lk9_164 : Cond.methodLink RX9 164 yX2_yearsOfAll ∈ wsT := mT 492 (by decide +kernel) rfl
theorem lk9_167 : Cond.methodLink RX9 167 yX2_gainsOfAll ∈ wsT := mT 496 (by decide +kernel) rfl
theorem lk2_82 : Cond.methodLink RX2 82 yX2_gainOf ∈ wsT := mT 500 (by decide +kernel) rfl
theorem lk9_170 : Cond.methodLink RX9 170 yX2_ladsHired ∈ wsT := mT 501 (by decide +kernel) rfl
theorem lkL_52 : Cond.methodLink RL 52 yX9_limit ∈ wsT := mT 505 (by decide +kernel) rfl
theorem lk9_173 : Cond.methodLink RX9 173 yX9_change ∈ wsT := mT 509 (by decide +kernel) rfl
theorem lk9_245 : Cond.methodLink RX9 245 yX0_note ∈ wsT := mT 513 (by decide +kernel) rfl
theorem lk0_22 : Cond.methodLink RX0 22 arraycopyName ∈ wsT := mT 517 (by decide +kernel) rfl
theorem lkL_56 : Cond.methodLink RL 56 yX9_calls ∈ wsT := mT 518 (by decide +kernel) rfl
theorem lkL_60 : Cond.methodLink RL 60 yX9_step ∈ wsT := mT 522 (by decide +kernel) rfl
theorem lkL_64 : Cond.methodLink RL 64 yX9_undo ∈ wsT := mT 526 (by decide +kernel) rfl
theorem lk9_176 : Cond.methodLink RX9 176 yX0_takeBack ∈ wsT := mT 530 (by decide +kernel) rfl
theorem lkL_68 : Cond.methodLink RL 68 yX9_lie ∈ wsT := mT 534 (by decide +kernel) rfl
theorem lk9_179 : Cond.methodLink RX9 179 yX9_gainBySaying ∈ wsT := mT 538 (by decide +kernel) rfl
theorem lkL_72 : Cond.methodLink RL 72 yX9_game ∈ wsT := mT 542 (by decide +kernel) rfl
theorem lk9_182 : Cond.methodLink RX9 182 yX1_play ∈ wsT := mT 546 (by decide +kernel) rfl
theorem lk1_25 : Cond.methodLink RX1 25 yX2_hold ∈ wsT := mT 550 (by decide +kernel) rfl
theorem lk1_31 : Cond.methodLink RX1 31 yX2_gainOf ∈ wsT := mT 551 (by decide +kernel) rfl
theorem lk9_186 : Cond.methodLink RX9 186 yX1_findRests ∈ wsT := mT 552 (by decide +kernel) rfl
theorem lk1_39 : Cond.methodLink RX1 39 yX1_isRest ∈ wsT := mT 556 (by decide +kernel) rfl
theorem lk1_43 : Cond.methodLink RX1 43 yX1_noteRest ∈ wsT := mT 560 (by decide +kernel) rfl
theorem lkL_76 : Cond.methodLink RL 76 yX9_rest ∈ wsT := mT 564 (by decide +kernel) rfl
theorem lk9_198 : Cond.methodLink RX9 198 yX3_search ∈ wsT := mT 568 (by decide +kernel) rfl
theorem lk3_29 : Cond.methodLink RX3 29 arraycopyName ∈ wsT := mT 572 (by decide +kernel) rfl
theorem lk3_39 : Cond.methodLink RX3 39 yX3_mostWantOf ∈ wsT := mT 573 (by decide +kernel) rfl
theorem lk3_57 : Cond.methodLink RX3 57 Lib.Math.max.name ∈ wsT := mT 576 (by decide +kernel) rfl
theorem lk3_46 : Cond.methodLink RX3 46 yX3_place ∈ wsT := mT 577 (by decide +kernel) rfl
theorem lk9_204 : Cond.methodLink RX9 204 yX5_search ∈ wsT := mT 580 (by decide +kernel) rfl
theorem lk5_25 : Cond.methodLink RX5 25 yX5_countHeld ∈ wsT := mT 584 (by decide +kernel) rfl
theorem lk5_47 : Cond.methodLink RX5 47 yJ7_fill_53178 ∈ wsT := mT 588 (by decide +kernel) rfl
theorem lk5_35 : Cond.methodLink RX5 35 yX5_isBetter ∈ wsT := mT 589 (by decide +kernel) rfl
theorem lk5_39 : Cond.methodLink RX5 39 yX5_isAtRest ∈ wsT := mT 593 (by decide +kernel) rfl
theorem lk5_68 : Cond.methodLink RX5 68 yX5_isContent ∈ wsT := mT 597 (by decide +kernel) rfl
theorem lk5_43 : Cond.methodLink RX5 43 yX5_noteAsked ∈ wsT := mT 601 (by decide +kernel) rfl
theorem lk5_59 : Cond.methodLink RX5 59 arraycopyName ∈ wsT := mT 605 (by decide +kernel) rfl
theorem lkL_81 : Cond.methodLink RL 81 yX9_joint ∈ wsT := mT 606 (by decide +kernel) rfl
theorem lkL_85 : Cond.methodLink RL 85 yX9_pay ∈ wsT := mT 610 (by decide +kernel) rfl
theorem lkL_89 : Cond.methodLink RL 89 yX9_seen ∈ wsT := mT 614 (by decide +kernel) rfl
theorem lk9_218 : Cond.methodLink RX9 218 yX7_add ∈ wsT := mT 618 (by decide +kernel) rfl
theorem lkL_93 : Cond.methodLink RL 93 yX9_forget ∈ wsT := mT 622 (by decide +kernel) rfl
theorem lkL_97 : Cond.methodLink RL 97 yX9_cousins ∈ wsT := mT 626 (by decide +kernel) rfl
theorem lk9_222 : Cond.methodLink RX9 222 yX9_isAsSeenWithout ∈ wsT := mT 630 (by decide +kernel) rfl
theorem lk9_248 : Cond.methodLink RX9 248 yX7_fit ∈ wsT := mT 634 (by decide +kernel) rfl
theorem lk7_22 : Cond.methodLink RX7 22 yX2_mostYearsOf ∈ wsT := mT 638 (by decide +kernel) rfl
theorem lkL_101 : Cond.methodLink RL 101 yX9_span ∈ wsT := mT 639 (by decide +kernel) rfl
theorem lk9_225 : Cond.methodLink RX9 225 yX2_spanFrom ∈ wsT := mT 643 (by decide +kernel) rfl
theorem lk2_88 : Cond.methodLink RX2 88 yX2_hadGotAnother ∈ wsT := mT 647 (by decide +kernel) rfl
theorem lk2_91 : Cond.methodLink RX2 91 yX2_firstCallOut ∈ wsT := mT 651 (by decide +kernel) rfl
theorem lk9_229 : Cond.methodLink RX9 229 yX2_spanTo ∈ wsT := mT 655 (by decide +kernel) rfl
theorem lkL_105 : Cond.methodLink RL 105 yX9_year ∈ wsT := mT 659 (by decide +kernel) rfl
theorem lk9_232 : Cond.methodLink RX9 232 yX4_drawWants ∈ wsT := mT 663 (by decide +kernel) rfl
theorem lk9_236 : Cond.methodLink RX9 236 yX2_mastersAlone ∈ wsT := mT 672 (by decide +kernel) rfl
theorem lk2_85 : Cond.methodLink RX2 85 yX2_ladsOf ∈ wsT := mT 676 (by decide +kernel) rfl
theorem lkL_109 : Cond.methodLink RL 109 yX9_keep ∈ wsT := mT 677 (by decide +kernel) rfl
theorem lk9_239 : Cond.methodLink RX9 239 yX6_put ∈ wsT := mT 681 (by decide +kernel) rfl
theorem lk6_26 : Cond.methodLink RX6 26 arraycopyName ∈ wsT := mT 685 (by decide +kernel) rfl
theorem lkL_113 : Cond.methodLink RL 113 yX9_back ∈ wsT := mT 686 (by decide +kernel) rfl
theorem lk9_242 : Cond.methodLink RX9 242 yX6_takeInto ∈ wsT := mT 690 (by decide +kernel) rfl
theorem lkL_117 : Cond.methodLink RL 117 yX9_count ∈ wsT := mT 694 (by decide +kernel) rfl
theorem lkL_12 : Cond.methodLink RL 12 yX10_init ∈ wsT := mT 700 (by decide +kernel) rfl
theorem lk10_1 : Cond.methodLink RX10 1 objectInit ∈ wsT := mT 703 (by decide +kernel) rfl
theorem lk10_73 : Cond.methodLink RX10 73 yX10_noFair ∈ wsT := mT 704 (by decide +kernel) rfl
theorem lkL_19 : Cond.methodLink RL 19 yX10_write ∈ wsT := mT 796 (by decide +kernel) rfl
theorem lk10_79 : Cond.methodLink RX10 79 yX10_in ∈ wsT := mT 801 (by decide +kernel) rfl
theorem lkL_24 : Cond.methodLink RL 24 yX10_wipe ∈ wsT := mT 805 (by decide +kernel) rfl
theorem lkL_28 : Cond.methodLink RL 28 yX10_fault ∈ wsT := mT 809 (by decide +kernel) rfl
theorem lk10_114 : Cond.methodLink RX10 114 yX10_readAll ∈ wsT := mT 813 (by decide +kernel) rfl
theorem lk10_110 : Cond.methodLink RX10 110 yX10_item ∈ wsT := mT 817 (by decide +kernel) rfl
theorem lk10_92 : Cond.methodLink RX10 92 yX10_byteAt ∈ wsT := mT 821 (by decide +kernel) rfl
theorem lk10_102 : Cond.methodLink RX10 102 yX10_figures ∈ wsT := mT 825 (by decide +kernel) rfl
theorem lkL_32 : Cond.methodLink RL 32 yX10_lay ∈ wsT := mT 834 (by decide +kernel) rfl
theorem lk10_118 : Cond.methodLink RX10 118 yX10_copy ∈ wsT := mT 838 (by decide +kernel) rfl
theorem lkL_37 : Cond.methodLink RL 37 yX10_lad ∈ wsT := mT 842 (by decide +kernel) rfl
theorem lk10_177 : Cond.methodLink RX10 177 yX10_isLad ∈ wsT := mT 846 (by decide +kernel) rfl
theorem lk10_182 : Cond.methodLink RX10 182 yX10_goFair ∈ wsT := mT 851 (by decide +kernel) rfl
theorem lk10_171 : Cond.methodLink RX10 171 yX10_begin ∈ wsT := mT 855 (by decide +kernel) rfl
theorem lk10_174 : Cond.methodLink RX10 174 yX10_callOne ∈ wsT := mT 859 (by decide +kernel) rfl
theorem lk10_162 : Cond.methodLink RX10 162 yX10_callBelow ∈ wsT := mT 863 (by decide +kernel) rfl
theorem lk10_149 : Cond.methodLink RX10 149 yX10_inSet ∈ wsT := mT 867 (by decide +kernel) rfl
theorem lk10_138 : Cond.methodLink RX10 138 yX10_isIn ∈ wsT := mT 871 (by decide +kernel) rfl
theorem lk10_134 : Cond.methodLink RX10 134 yX10_boundOf ∈ wsT := mT 875 (by decide +kernel) rfl
theorem lk10_152 : Cond.methodLink RX10 152 yX10_bits ∈ wsT := mT 879 (by decide +kernel) rfl
theorem lk10_158 : Cond.methodLink RX10 158 yX10_give ∈ wsT := mT 882 (by decide +kernel) rfl
theorem lk10_142 : Cond.methodLink RX10 142 yX10_has ∈ wsT := mT 886 (by decide +kernel) rfl
theorem lk10_165 : Cond.methodLink RX10 165 yX10_callAbove ∈ wsT := mT 889 (by decide +kernel) rfl
theorem lk10_168 : Cond.methodLink RX10 168 yX10_callSealed ∈ wsT := mT 893 (by decide +kernel) rfl
theorem lk10_185 : Cond.methodLink RX10 185 yX10_gainOf ∈ wsT := mT 897 (by decide +kernel) rfl
theorem lkL_41 : Cond.methodLink RL 41 yX10_master ∈ wsT := mT 901 (by decide +kernel) rfl
theorem lk10_188 : Cond.methodLink RX10 188 yX10_isMaster ∈ wsT := mT 905 (by decide +kernel) rfl
theorem lk10_191 : Cond.methodLink RX10 191 yX10_ladsOf ∈ wsT := mT 909 (by decide +kernel) rfl
theorem lk10_194 : Cond.methodLink RX10 194 yX10_mostOf ∈ wsT := mT 913 (by decide +kernel) rfl
theorem lkL_46 : Cond.methodLink RL 46 yX10_wants ∈ wsT := mT 917 (by decide +kernel) rfl
theorem lkL_51 : Cond.methodLink RL 51 yX10_all ∈ wsT := mT 921 (by decide +kernel) rfl
theorem lkL_55 : Cond.methodLink RL 55 yX10_limit ∈ wsT := mT 925 (by decide +kernel) rfl
theorem lk10_197 : Cond.methodLink RX10 197 yX10_note ∈ wsT := mT 929 (by decide +kernel) rfl
theorem lkL_59 : Cond.methodLink RL 59 yX10_calls ∈ wsT := mT 933 (by decide +kernel) rfl
theorem lkL_63 : Cond.methodLink RL 63 yX10_step ∈ wsT := mT 937 (by decide +kernel) rfl
theorem lkL_67 : Cond.methodLink RL 67 yX10_undo ∈ wsT := mT 941 (by decide +kernel) rfl
theorem lkL_71 : Cond.methodLink RL 71 yX10_lie ∈ wsT := mT 945 (by decide +kernel) rfl
theorem lkL_75 : Cond.methodLink RL 75 yX10_game ∈ wsT := mT 949 (by decide +kernel) rfl
theorem lkL_80 : Cond.methodLink RL 80 yX10_rest ∈ wsT := mT 953 (by decide +kernel) rfl
theorem lk10_209 : Cond.methodLink RX10 209 yX10_takePrices ∈ wsT := mT 957 (by decide +kernel) rfl
theorem lk10_212 : Cond.methodLink RX10 212 yX10_canRest ∈ wsT := mT 961 (by decide +kernel) rfl
theorem lk10_200 : Cond.methodLink RX10 200 yX10_codes ∈ wsT := mT 965 (by decide +kernel) rfl
theorem lk10_203 : Cond.methodLink RX10 203 yX10_seatAll ∈ wsT := mT 969 (by decide +kernel) rfl
theorem lk10_206 : Cond.methodLink RX10 206 yX10_isAtRest ∈ wsT := mT 973 (by decide +kernel) rfl
theorem lkL_84 : Cond.methodLink RL 84 yX10_joint ∈ wsT := mT 977 (by decide +kernel) rfl
theorem lk10_218 : Cond.methodLink RX10 218 yX10_bestWay ∈ wsT := mT 981 (by decide +kernel) rfl
theorem lk10_215 : Cond.methodLink RX10 215 yX10_sumOf ∈ wsT := mT 985 (by decide +kernel) rfl
theorem lkL_88 : Cond.methodLink RL 88 yX10_pay ∈ wsT := mT 989 (by decide +kernel) rfl
theorem lkL_92 : Cond.methodLink RL 92 yX10_seen ∈ wsT := mT 993 (by decide +kernel) rfl
theorem lkL_96 : Cond.methodLink RL 96 yX10_forget ∈ wsT := mT 997 (by decide +kernel) rfl
theorem lkL_100 : Cond.methodLink RL 100 yX10_cousins ∈ wsT := mT 1001 (by decide +kernel) rfl
theorem lk10_221 : Cond.methodLink RX10 221 yX10_isSeenSo ∈ wsT := mT 1005 (by decide +kernel) rfl
theorem lkL_104 : Cond.methodLink RL 104 yX10_span ∈ wsT := mT 1009 (by decide +kernel) rfl
theorem lkL_108 : Cond.methodLink RL 108 yX10_year ∈ wsT := mT 1013 (by decide +kernel) rfl
theorem lkL_112 : Cond.methodLink RL 112 yX10_keep ∈ wsT := mT 1023 (by decide +kernel) rfl
theorem lkL_116 : Cond.methodLink RL 116 yX10_back ∈ wsT := mT 1027 (by decide +kernel) rfl
theorem lkL_120 : Cond.methodLink RL 120 yX10_count ∈ wsT := mT 1031 (by decide +kernel) rfl
theorem fl8_19 : FL RX8 19 8 0 := ⟨RX8, TX8, 3, rfl, by decide, mT 82 (by decide +kernel) rfl, clX8⟩
theorem fp8_19 : FP RX8 19 8 0 .int := ⟨RX8, TX8, 3, tyX8, rfl, by decide, mT 82 (by decide +kernel) rfl, clX8, tyX8_ok, nmX8, rfl, by decide +kernel⟩
theorem fl9_93 : FL RX9 93 8 0 := ⟨RX8, TX8, 3, rfl, by decide, mT 83 (by decide +kernel) rfl, clX8⟩
theorem fp9_93 : FP RX9 93 8 0 .int := ⟨RX8, TX8, 3, tyX8, rfl, by decide, mT 83 (by decide +kernel) rfl, clX8, tyX8_ok, nmX8, rfl, by decide +kernel⟩
theorem fl8_9 : FL RX8 9 8 1 := ⟨RX8, TX8, 3, rfl, by decide, mT 84 (by decide +kernel) rfl, clX8⟩
theorem fl8_15 : FL RX8 15 8 2 := ⟨RX8, TX8, 3, rfl, by decide, mT 85 (by decide +kernel) rfl, clX8⟩
theorem fl4_26 : FL RX4 26 4 0 := ⟨RX4, TX4, 6, rfl, by decide, mT 103 (by decide +kernel) rfl, clX4⟩
theorem fp4_26 : FP RX4 26 4 0 .int := ⟨RX4, TX4, 6, tyX4, rfl, by decide, mT 103 (by decide +kernel) rfl, clX4, tyX4_ok, nmX4, rfl, by decide +kernel⟩
theorem fl5_29 : FL RX5 29 4 0 := ⟨RX4, TX4, 6, rfl, by decide, mT 104 (by decide +kernel) rfl, clX4⟩
theorem fp5_29 : FP RX5 29 4 0 .int := ⟨RX4, TX4, 6, tyX4, rfl, by decide, mT 104 (by decide +kernel) rfl, clX4, tyX4_ok, nmX4, rfl, by decide +kernel⟩
theorem fl2_30 : FL RX2 30 4 0 := ⟨RX4, TX4, 6, rfl, by decide, mT 105 (by decide +kernel) rfl, clX4⟩
theorem fp2_30 : FP RX2 30 4 0 .int := ⟨RX4, TX4, 6, tyX4, rfl, by decide, mT 105 (by decide +kernel) rfl, clX4, tyX4_ok, nmX4, rfl, by decide +kernel⟩
theorem fl3_50 : FL RX3 50 4 0 := ⟨RX4, TX4, 6, rfl, by decide, mT 106 (by decide +kernel) rfl, clX4⟩
theorem fp3_50 : FP RX3 50 4 0 .int := ⟨RX4, TX4, 6, tyX4, rfl, by decide, mT 106 (by decide +kernel) rfl, clX4, tyX4_ok, nmX4, rfl, by decide +kernel⟩
theorem fl9_105 : FL RX9 105 4 0 := ⟨RX4, TX4, 6, rfl, by decide, mT 107 (by decide +kernel) rfl, clX4⟩
theorem fp9_105 : FP RX9 105 4 0 .int := ⟨RX4, TX4, 6, tyX4, rfl, by decide, mT 107 (by decide +kernel) rfl, clX4, tyX4_ok, nmX4, rfl, by decide +kernel⟩
theorem fl4_30 : FL RX4 30 4 1 := ⟨RX4, TX4, 6, rfl, by decide, mT 108 (by decide +kernel) rfl, clX4⟩
theorem fp4_30 : FP RX4 30 4 1 .int := ⟨RX4, TX4, 6, tyX4, rfl, by decide, mT 108 (by decide +kernel) rfl, clX4, tyX4_ok, nmX4, rfl, by decide +kernel⟩
theorem fl3_35 : FL RX3 35 4 1 := ⟨RX4, TX4, 6, rfl, by decide, mT 109 (by decide +kernel) rfl, clX4⟩
theorem fp3_35 : FP RX3 35 4 1 .int := ⟨RX4, TX4, 6, tyX4, rfl, by decide, mT 109 (by decide +kernel) rfl, clX4, tyX4_ok, nmX4, rfl, by decide +kernel⟩
theorem fl2_36 : FL RX2 36 4 1 := ⟨RX4, TX4, 6, rfl, by decide, mT 110 (by decide +kernel) rfl, clX4⟩
theorem fp2_36 : FP RX2 36 4 1 .int := ⟨RX4, TX4, 6, tyX4, rfl, by decide, mT 110 (by decide +kernel) rfl, clX4, tyX4_ok, nmX4, rfl, by decide +kernel⟩
theorem fl5_53 : FL RX5 53 4 1 := ⟨RX4, TX4, 6, rfl, by decide, mT 111 (by decide +kernel) rfl, clX4⟩
theorem fp5_53 : FP RX5 53 4 1 .int := ⟨RX4, TX4, 6, tyX4, rfl, by decide, mT 111 (by decide +kernel) rfl, clX4, tyX4_ok, nmX4, rfl, by decide +kernel⟩
theorem fl9_108 : FL RX9 108 4 1 := ⟨RX4, TX4, 6, rfl, by decide, mT 112 (by decide +kernel) rfl, clX4⟩
theorem fp9_108 : FP RX9 108 4 1 .int := ⟨RX4, TX4, 6, tyX4, rfl, by decide, mT 112 (by decide +kernel) rfl, clX4, tyX4_ok, nmX4, rfl, by decide +kernel⟩
theorem fl4_9 : FL RX4 9 4 2 := ⟨RX4, TX4, 6, rfl, by decide, mT 113 (by decide +kernel) rfl, clX4⟩
theorem fl3_24 : FL RX3 24 4 2 := ⟨RX4, TX4, 6, rfl, by decide, mT 114 (by decide +kernel) rfl, clX4⟩
theorem fl2_62 : FL RX2 62 4 2 := ⟨RX4, TX4, 6, rfl, by decide, mT 115 (by decide +kernel) rfl, clX4⟩
theorem fl5_65 : FL RX5 65 4 2 := ⟨RX4, TX4, 6, rfl, by decide, mT 116 (by decide +kernel) rfl, clX4⟩
theorem fl9_147 : FL RX9 147 4 2 := ⟨RX4, TX4, 6, rfl, by decide, mT 117 (by decide +kernel) rfl, clX4⟩
theorem fl4_15 : FL RX4 15 4 3 := ⟨RX4, TX4, 6, rfl, by decide, mT 118 (by decide +kernel) rfl, clX4⟩
theorem fl9_127 : FL RX9 127 4 3 := ⟨RX4, TX4, 6, rfl, by decide, mT 119 (by decide +kernel) rfl, clX4⟩
theorem fl4_20 : FL RX4 20 4 4 := ⟨RX4, TX4, 6, rfl, by decide, mT 120 (by decide +kernel) rfl, clX4⟩
theorem fl3_53 : FL RX3 53 4 4 := ⟨RX4, TX4, 6, rfl, by decide, mT 121 (by decide +kernel) rfl, clX4⟩
theorem fl5_72 : FL RX5 72 4 4 := ⟨RX4, TX4, 6, rfl, by decide, mT 122 (by decide +kernel) rfl, clX4⟩
theorem fl2_73 : FL RX2 73 4 4 := ⟨RX4, TX4, 6, rfl, by decide, mT 123 (by decide +kernel) rfl, clX4⟩
theorem fl9_156 : FL RX9 156 4 4 := ⟨RX4, TX4, 6, rfl, by decide, mT 124 (by decide +kernel) rfl, clX4⟩
theorem fl4_23 : FL RX4 23 4 5 := ⟨RX4, TX4, 6, rfl, by decide, mT 125 (by decide +kernel) rfl, clX4⟩
theorem fl6_16 : FL RX6 16 4 5 := ⟨RX4, TX4, 6, rfl, by decide, mT 126 (by decide +kernel) rfl, clX4⟩
theorem fl1_19 : FL RX1 19 4 5 := ⟨RX4, TX4, 6, rfl, by decide, mT 127 (by decide +kernel) rfl, clX4⟩
theorem fl2_43 : FL RX2 43 4 5 := ⟨RX4, TX4, 6, rfl, by decide, mT 128 (by decide +kernel) rfl, clX4⟩
theorem fl0_28 : FL RX0 28 4 5 := ⟨RX4, TX4, 6, rfl, by decide, mT 129 (by decide +kernel) rfl, clX4⟩
theorem fl9_123 : FL RX9 123 4 5 := ⟨RX4, TX4, 6, rfl, by decide, mT 130 (by decide +kernel) rfl, clX4⟩
theorem fl2_9 : FL RX2 9 2 0 := ⟨RX2, TX2, 4, rfl, by decide, mT 150 (by decide +kernel) rfl, clX2⟩
theorem fl9_134 : FL RX9 134 2 0 := ⟨RX2, TX2, 4, rfl, by decide, mT 151 (by decide +kernel) rfl, clX2⟩
theorem fl2_15 : FL RX2 15 2 1 := ⟨RX2, TX2, 4, rfl, by decide, mT 152 (by decide +kernel) rfl, clX2⟩
theorem fl9_137 : FL RX9 137 2 1 := ⟨RX2, TX2, 4, rfl, by decide, mT 153 (by decide +kernel) rfl, clX2⟩
theorem fl2_18 : FL RX2 18 2 2 := ⟨RX2, TX2, 4, rfl, by decide, mT 154 (by decide +kernel) rfl, clX2⟩
theorem fl2_21 : FL RX2 21 2 3 := ⟨RX2, TX2, 4, rfl, by decide, mT 155 (by decide +kernel) rfl, clX2⟩
theorem fl1_35 : FL RX1 35 1 0 := ⟨RX1, TX1, 5, rfl, by decide, mT 172 (by decide +kernel) rfl, clX1⟩
theorem fp1_35 : FP RX1 35 1 0 .int := ⟨RX1, TX1, 5, tyX1, rfl, by decide, mT 172 (by decide +kernel) rfl, clX1, tyX1_ok, nmX1, rfl, by decide +kernel⟩
theorem fl9_189 : FL RX9 189 1 0 := ⟨RX1, TX1, 5, rfl, by decide, mT 173 (by decide +kernel) rfl, clX1⟩
theorem fp9_189 : FP RX9 189 1 0 .int := ⟨RX1, TX1, 5, tyX1, rfl, by decide, mT 173 (by decide +kernel) rfl, clX1, tyX1_ok, nmX1, rfl, by decide +kernel⟩
theorem fl1_47 : FL RX1 47 1 1 := ⟨RX1, TX1, 5, rfl, by decide, mT 174 (by decide +kernel) rfl, clX1⟩
theorem fp1_47 : FP RX1 47 1 1 .int := ⟨RX1, TX1, 5, tyX1, rfl, by decide, mT 174 (by decide +kernel) rfl, clX1, tyX1_ok, nmX1, rfl, by decide +kernel⟩
theorem fl9_192 : FL RX9 192 1 1 := ⟨RX1, TX1, 5, rfl, by decide, mT 175 (by decide +kernel) rfl, clX1⟩
theorem fp9_192 : FP RX9 192 1 1 .int := ⟨RX1, TX1, 5, tyX1, rfl, by decide, mT 175 (by decide +kernel) rfl, clX1, tyX1_ok, nmX1, rfl, by decide +kernel⟩
theorem fl1_50 : FL RX1 50 1 2 := ⟨RX1, TX1, 5, rfl, by decide, mT 176 (by decide +kernel) rfl, clX1⟩
theorem fp1_50 : FP RX1 50 1 2 .int := ⟨RX1, TX1, 5, tyX1, rfl, by decide, mT 176 (by decide +kernel) rfl, clX1, tyX1_ok, nmX1, rfl, by decide +kernel⟩
theorem fl9_195 : FL RX9 195 1 2 := ⟨RX1, TX1, 5, rfl, by decide, mT 177 (by decide +kernel) rfl, clX1⟩
theorem fp9_195 : FP RX9 195 1 2 .int := ⟨RX1, TX1, 5, tyX1, rfl, by decide, mT 177 (by decide +kernel) rfl, clX1, tyX1_ok, nmX1, rfl, by decide +kernel⟩
theorem fl1_11 : FL RX1 11 1 3 := ⟨RX1, TX1, 5, rfl, by decide, mT 178 (by decide +kernel) rfl, clX1⟩
theorem fl1_16 : FL RX1 16 1 4 := ⟨RX1, TX1, 5, rfl, by decide, mT 179 (by decide +kernel) rfl, clX1⟩
theorem fl3_43 : FL RX3 43 3 0 := ⟨RX3, TX3, 5, rfl, by decide, mT 197 (by decide +kernel) rfl, clX3⟩
theorem fp3_43 : FP RX3 43 3 0 .int := ⟨RX3, TX3, 5, tyX3, rfl, by decide, mT 197 (by decide +kernel) rfl, clX3, tyX3_ok, nmX3, rfl, by decide +kernel⟩
theorem fl9_215 : FL RX9 215 3 0 := ⟨RX3, TX3, 5, rfl, by decide, mT 198 (by decide +kernel) rfl, clX3⟩
theorem fp9_215 : FP RX9 215 3 0 .int := ⟨RX3, TX3, 5, tyX3, rfl, by decide, mT 198 (by decide +kernel) rfl, clX3, tyX3_ok, nmX3, rfl, by decide +kernel⟩
theorem fl3_9 : FL RX3 9 3 1 := ⟨RX3, TX3, 5, rfl, by decide, mT 199 (by decide +kernel) rfl, clX3⟩
theorem fl9_201 : FL RX9 201 3 1 := ⟨RX3, TX3, 5, rfl, by decide, mT 200 (by decide +kernel) rfl, clX3⟩
theorem fl3_15 : FL RX3 15 3 2 := ⟨RX3, TX3, 5, rfl, by decide, mT 201 (by decide +kernel) rfl, clX3⟩
theorem fl3_18 : FL RX3 18 3 3 := ⟨RX3, TX3, 5, rfl, by decide, mT 202 (by decide +kernel) rfl, clX3⟩
theorem fl3_21 : FL RX3 21 3 4 := ⟨RX3, TX3, 5, rfl, by decide, mT 203 (by decide +kernel) rfl, clX3⟩
theorem fl5_21 : FL RX5 21 5 0 := ⟨RX5, TX5, 5, rfl, by decide, mT 221 (by decide +kernel) rfl, clX5⟩
theorem fp5_21 : FP RX5 21 5 0 .boolean := ⟨RX5, TX5, 5, tyX5, rfl, by decide, mT 221 (by decide +kernel) rfl, clX5, tyX5_ok, nmX5, rfl, by decide +kernel⟩
theorem fl9_207 : FL RX9 207 5 0 := ⟨RX5, TX5, 5, rfl, by decide, mT 222 (by decide +kernel) rfl, clX5⟩
theorem fp9_207 : FP RX9 207 5 0 .boolean := ⟨RX5, TX5, 5, tyX5, rfl, by decide, mT 222 (by decide +kernel) rfl, clX5, tyX5_ok, nmX5, rfl, by decide +kernel⟩
theorem fl5_56 : FL RX5 56 5 1 := ⟨RX5, TX5, 5, rfl, by decide, mT 223 (by decide +kernel) rfl, clX5⟩
theorem fp5_56 : FP RX5 56 5 1 .int := ⟨RX5, TX5, 5, tyX5, rfl, by decide, mT 223 (by decide +kernel) rfl, clX5, tyX5_ok, nmX5, rfl, by decide +kernel⟩
theorem fl9_211 : FL RX9 211 5 1 := ⟨RX5, TX5, 5, rfl, by decide, mT 224 (by decide +kernel) rfl, clX5⟩
theorem fp9_211 : FP RX9 211 5 1 .int := ⟨RX5, TX5, 5, tyX5, rfl, by decide, mT 224 (by decide +kernel) rfl, clX5, tyX5_ok, nmX5, rfl, by decide +kernel⟩
theorem fl5_9 : FL RX5 9 5 2 := ⟨RX5, TX5, 5, rfl, by decide, mT 225 (by decide +kernel) rfl, clX5⟩
theorem fl9_214 : FL RX9 214 5 2 := ⟨RX5, TX5, 5, rfl, by decide, mT 226 (by decide +kernel) rfl, clX5⟩
theorem fl5_15 : FL RX5 15 5 3 := ⟨RX5, TX5, 5, rfl, by decide, mT 227 (by decide +kernel) rfl, clX5⟩
theorem fl5_18 : FL RX5 18 5 4 := ⟨RX5, TX5, 5, rfl, by decide, mT 228 (by decide +kernel) rfl, clX5⟩
theorem fl7_18 : FL RX7 18 7 0 := ⟨RX7, TX7, 3, rfl, by decide, mT 246 (by decide +kernel) rfl, clX7⟩
theorem fp7_18 : FP RX7 18 7 0 .int := ⟨RX7, TX7, 3, tyX7, rfl, by decide, mT 246 (by decide +kernel) rfl, clX7, tyX7_ok, nmX7, rfl, by decide +kernel⟩
theorem fl9_115 : FL RX9 115 7 0 := ⟨RX7, TX7, 3, rfl, by decide, mT 247 (by decide +kernel) rfl, clX7⟩
theorem fp9_115 : FP RX9 115 7 0 .int := ⟨RX7, TX7, 3, tyX7, rfl, by decide, mT 247 (by decide +kernel) rfl, clX7, tyX7_ok, nmX7, rfl, by decide +kernel⟩
theorem fl7_9 : FL RX7 9 7 1 := ⟨RX7, TX7, 3, rfl, by decide, mT 248 (by decide +kernel) rfl, clX7⟩
theorem fl7_15 : FL RX7 15 7 2 := ⟨RX7, TX7, 3, rfl, by decide, mT 249 (by decide +kernel) rfl, clX7⟩
theorem fl0_18 : FL RX0 18 0 0 := ⟨RX0, TX0, 3, rfl, by decide, mT 263 (by decide +kernel) rfl, clX0⟩
theorem fp0_18 : FP RX0 18 0 0 .int := ⟨RX0, TX0, 3, tyX0, rfl, by decide, mT 263 (by decide +kernel) rfl, clX0, tyX0_ok, nmX0, rfl, by decide +kernel⟩
theorem fl9_118 : FL RX9 118 0 0 := ⟨RX0, TX0, 3, rfl, by decide, mT 264 (by decide +kernel) rfl, clX0⟩
theorem fp9_118 : FP RX9 118 0 0 .int := ⟨RX0, TX0, 3, tyX0, rfl, by decide, mT 264 (by decide +kernel) rfl, clX0, tyX0_ok, nmX0, rfl, by decide +kernel⟩
theorem fl0_9 : FL RX0 9 0 1 := ⟨RX0, TX0, 3, rfl, by decide, mT 265 (by decide +kernel) rfl, clX0⟩
theorem fl0_15 : FL RX0 15 0 2 := ⟨RX0, TX0, 3, rfl, by decide, mT 266 (by decide +kernel) rfl, clX0⟩
theorem fl6_22 : FL RX6 22 6 0 := ⟨RX6, TX6, 2, rfl, by decide, mT 281 (by decide +kernel) rfl, clX6⟩
theorem fp6_22 : FP RX6 22 6 0 .int := ⟨RX6, TX6, 2, tyX6, rfl, by decide, mT 281 (by decide +kernel) rfl, clX6, tyX6_ok, nmX6, rfl, by decide +kernel⟩
theorem fl9_119 : FL RX9 119 6 0 := ⟨RX6, TX6, 2, rfl, by decide, mT 282 (by decide +kernel) rfl, clX6⟩
theorem fp9_119 : FP RX9 119 6 0 .int := ⟨RX6, TX6, 2, tyX6, rfl, by decide, mT 282 (by decide +kernel) rfl, clX6, tyX6_ok, nmX6, rfl, by decide +kernel⟩
theorem fl6_11 : FL RX6 11 6 1 := ⟨RX6, TX6, 2, rfl, by decide, mT 283 (by decide +kernel) rfl, clX6⟩
theorem fl9_12 : FL RX9 12 9 0 := ⟨RX9, TX9, 10, rfl, by decide, mT 319 (by decide +kernel) rfl, clX9⟩
theorem fl9_19 : FL RX9 19 9 1 := ⟨RX9, TX9, 10, rfl, by decide, mT 320 (by decide +kernel) rfl, clX9⟩
theorem fl9_23 : FL RX9 23 9 2 := ⟨RX9, TX9, 10, rfl, by decide, mT 321 (by decide +kernel) rfl, clX9⟩
theorem fl9_29 : FL RX9 29 9 3 := ⟨RX9, TX9, 10, rfl, by decide, mT 322 (by decide +kernel) rfl, clX9⟩
theorem fl9_36 : FL RX9 36 9 4 := ⟨RX9, TX9, 10, rfl, by decide, mT 323 (by decide +kernel) rfl, clX9⟩
theorem fl9_43 : FL RX9 43 9 5 := ⟨RX9, TX9, 10, rfl, by decide, mT 324 (by decide +kernel) rfl, clX9⟩
theorem fl9_50 : FL RX9 50 9 6 := ⟨RX9, TX9, 10, rfl, by decide, mT 325 (by decide +kernel) rfl, clX9⟩
theorem fl9_57 : FL RX9 57 9 7 := ⟨RX9, TX9, 10, rfl, by decide, mT 326 (by decide +kernel) rfl, clX9⟩
theorem fl9_64 : FL RX9 64 9 8 := ⟨RX9, TX9, 10, rfl, by decide, mT 327 (by decide +kernel) rfl, clX9⟩
theorem fl9_71 : FL RX9 71 9 9 := ⟨RX9, TX9, 10, rfl, by decide, mT 328 (by decide +kernel) rfl, clX9⟩
theorem fl10_83 : FL RX10 83 10 0 := ⟨RX10, TX10, 29, rfl, by decide, mT 708 (by decide +kernel) rfl, clX10⟩
theorem fp10_83 : FP RX10 83 10 0 .int := ⟨RX10, TX10, 29, tyX10, rfl, by decide, mT 708 (by decide +kernel) rfl, clX10, tyX10_ok, nmX10, rfl, by decide +kernel⟩
theorem fl10_7 : FL RX10 7 10 1 := ⟨RX10, TX10, 29, rfl, by decide, mT 709 (by decide +kernel) rfl, clX10⟩
theorem fl10_13 : FL RX10 13 10 2 := ⟨RX10, TX10, 29, rfl, by decide, mT 710 (by decide +kernel) rfl, clX10⟩
theorem fl10_16 : FL RX10 16 10 3 := ⟨RX10, TX10, 29, rfl, by decide, mT 711 (by decide +kernel) rfl, clX10⟩
theorem fl10_19 : FL RX10 19 10 4 := ⟨RX10, TX10, 29, rfl, by decide, mT 712 (by decide +kernel) rfl, clX10⟩
theorem fl10_22 : FL RX10 22 10 5 := ⟨RX10, TX10, 29, rfl, by decide, mT 713 (by decide +kernel) rfl, clX10⟩
theorem fl10_25 : FL RX10 25 10 6 := ⟨RX10, TX10, 29, rfl, by decide, mT 714 (by decide +kernel) rfl, clX10⟩
theorem fl10_28 : FL RX10 28 10 7 := ⟨RX10, TX10, 29, rfl, by decide, mT 715 (by decide +kernel) rfl, clX10⟩
theorem fl10_31 : FL RX10 31 10 8 := ⟨RX10, TX10, 29, rfl, by decide, mT 716 (by decide +kernel) rfl, clX10⟩
theorem fl10_34 : FL RX10 34 10 9 := ⟨RX10, TX10, 29, rfl, by decide, mT 717 (by decide +kernel) rfl, clX10⟩
theorem fl10_122 : FL RX10 122 10 10 := ⟨RX10, TX10, 29, rfl, by decide, mT 718 (by decide +kernel) rfl, clX10⟩
theorem fp10_122 : FP RX10 122 10 10 .int := ⟨RX10, TX10, 29, tyX10, rfl, by decide, mT 718 (by decide +kernel) rfl, clX10, tyX10_ok, nmX10, rfl, by decide +kernel⟩
theorem fl10_125 : FL RX10 125 10 11 := ⟨RX10, TX10, 29, rfl, by decide, mT 719 (by decide +kernel) rfl, clX10⟩
theorem fp10_125 : FP RX10 125 10 11 .int := ⟨RX10, TX10, 29, tyX10, rfl, by decide, mT 719 (by decide +kernel) rfl, clX10, tyX10_ok, nmX10, rfl, by decide +kernel⟩
theorem fl10_37 : FL RX10 37 10 12 := ⟨RX10, TX10, 29, rfl, by decide, mT 720 (by decide +kernel) rfl, clX10⟩
theorem fl10_128 : FL RX10 128 10 13 := ⟨RX10, TX10, 29, rfl, by decide, mT 721 (by decide +kernel) rfl, clX10⟩
theorem fp10_128 : FP RX10 128 10 13 .int := ⟨RX10, TX10, 29, tyX10, rfl, by decide, mT 721 (by decide +kernel) rfl, clX10, tyX10_ok, nmX10, rfl, by decide +kernel⟩
theorem fl10_40 : FL RX10 40 10 14 := ⟨RX10, TX10, 29, rfl, by decide, mT 722 (by decide +kernel) rfl, clX10⟩
theorem fl10_43 : FL RX10 43 10 15 := ⟨RX10, TX10, 29, rfl, by decide, mT 723 (by decide +kernel) rfl, clX10⟩
theorem fl10_89 : FL RX10 89 10 16 := ⟨RX10, TX10, 29, rfl, by decide, mT 724 (by decide +kernel) rfl, clX10⟩
theorem fp10_89 : FP RX10 89 10 16 .int := ⟨RX10, TX10, 29, tyX10, rfl, by decide, mT 724 (by decide +kernel) rfl, clX10, tyX10_ok, nmX10, rfl, by decide +kernel⟩
theorem fl10_46 : FL RX10 46 10 17 := ⟨RX10, TX10, 29, rfl, by decide, mT 725 (by decide +kernel) rfl, clX10⟩
theorem fl10_49 : FL RX10 49 10 18 := ⟨RX10, TX10, 29, rfl, by decide, mT 726 (by decide +kernel) rfl, clX10⟩
theorem fl10_52 : FL RX10 52 10 19 := ⟨RX10, TX10, 29, rfl, by decide, mT 727 (by decide +kernel) rfl, clX10⟩
theorem fl10_131 : FL RX10 131 10 20 := ⟨RX10, TX10, 29, rfl, by decide, mT 728 (by decide +kernel) rfl, clX10⟩
theorem fp10_131 : FP RX10 131 10 20 .int := ⟨RX10, TX10, 29, tyX10, rfl, by decide, mT 728 (by decide +kernel) rfl, clX10, tyX10_ok, nmX10, rfl, by decide +kernel⟩
theorem fl10_146 : FL RX10 146 10 21 := ⟨RX10, TX10, 29, rfl, by decide, mT 729 (by decide +kernel) rfl, clX10⟩
theorem fp10_146 : FP RX10 146 10 21 .int := ⟨RX10, TX10, 29, tyX10, rfl, by decide, mT 729 (by decide +kernel) rfl, clX10, tyX10_ok, nmX10, rfl, by decide +kernel⟩
theorem fl10_155 : FL RX10 155 10 22 := ⟨RX10, TX10, 29, rfl, by decide, mT 730 (by decide +kernel) rfl, clX10⟩
theorem fp10_155 : FP RX10 155 10 22 .int := ⟨RX10, TX10, 29, tyX10, rfl, by decide, mT 730 (by decide +kernel) rfl, clX10, tyX10_ok, nmX10, rfl, by decide +kernel⟩
theorem fl10_55 : FL RX10 55 10 23 := ⟨RX10, TX10, 29, rfl, by decide, mT 731 (by decide +kernel) rfl, clX10⟩
theorem fl10_58 : FL RX10 58 10 24 := ⟨RX10, TX10, 29, rfl, by decide, mT 732 (by decide +kernel) rfl, clX10⟩
theorem fl10_61 : FL RX10 61 10 25 := ⟨RX10, TX10, 29, rfl, by decide, mT 733 (by decide +kernel) rfl, clX10⟩
theorem fl10_64 : FL RX10 64 10 26 := ⟨RX10, TX10, 29, rfl, by decide, mT 734 (by decide +kernel) rfl, clX10⟩
theorem fl10_67 : FL RX10 67 10 27 := ⟨RX10, TX10, 29, rfl, by decide, mT 735 (by decide +kernel) rfl, clX10⟩
theorem fl10_70 : FL RX10 70 10 28 := ⟨RX10, TX10, 29, rfl, by decide, mT 736 (by decide +kernel) rfl, clX10⟩
theorem kl4_65 : Cond.constantLong RX4 65 7919 ∈ wsT := mT 667 (by decide +kernel) rfl
theorem kl4_67 : Cond.constantLong RX4 67 6151 ∈ wsT := mT 668 (by decide +kernel) rfl
theorem kl4_69 : Cond.constantLong RX4 69 3571 ∈ wsT := mT 669 (by decide +kernel) rfl
theorem kl4_71 : Cond.constantLong RX4 71 65521 ∈ wsT := mT 670 (by decide +kernel) rfl
theorem kl4_73 : Cond.constantLong RX4 73 11 ∈ wsT := mT 671 (by decide +kernel) rfl
theorem kl10_77 : Cond.constantLong RX10 77 8 ∈ wsT := mT 800 (by decide +kernel) rfl
theorem kl10_87 : Cond.constantLong RX10 87 255 ∈ wsT := mT 804 (by decide +kernel) rfl
theorem kl10_96 : Cond.constantLong RX10 96 48 ∈ wsT := mT 829 (by decide +kernel) rfl
theorem kl10_98 : Cond.constantLong RX10 98 57 ∈ wsT := mT 830 (by decide +kernel) rfl
theorem kl10_100 : Cond.constantLong RX10 100 2 ∈ wsT := mT 831 (by decide +kernel) rfl
theorem kl10_106 : Cond.constantLong RX10 106 3 ∈ wsT := mT 832 (by decide +kernel) rfl
theorem kl10_108 : Cond.constantLong RX10 108 10 ∈ wsT := mT 833 (by decide +kernel) rfl
theorem kl10_180 : Cond.constantLong RX10 180 4 ∈ wsT := mT 850 (by decide +kernel) rfl
theorem kl10_224 : Cond.constantLong RX10 224 9999 ∈ wsT := mT 1017 (by decide +kernel) rfl
theorem kl10_226 : Cond.constantLong RX10 226 7919 ∈ wsT := mT 1018 (by decide +kernel) rfl
theorem kl10_228 : Cond.constantLong RX10 228 6151 ∈ wsT := mT 1019 (by decide +kernel) rfl
theorem kl10_230 : Cond.constantLong RX10 230 3571 ∈ wsT := mT 1020 (by decide +kernel) rfl
theorem kl10_232 : Cond.constantLong RX10 232 65521 ∈ wsT := mT 1021 (by decide +kernel) rfl
theorem kl10_234 : Cond.constantLong RX10 234 11 ∈ wsT := mT 1022 (by decide +kernel) rfl
theorem klL_13 : Cond.constantLong RL 13 4294967295 ∈ wsT := mT 1035 (by decide +kernel) rfl
