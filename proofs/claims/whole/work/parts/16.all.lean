/-! the tables as a whole -/
def pwKind : List Nat := [2, 1, 1, 1, 1, 2, 1, 1, 1, 1, 0, 0, 0, 2, 2, 0, 0, 1, 1, 1, 1, 1, 1, 1, 1, 1, 1, 1, 1, 1, 1, 1, 1, 1, 2, 0, 0, 0, 1, 1, 1, 1, 1, 1, 1, 1, 1, 1, 1, 1, 1, 1, 1, 1, 1, 1, 1, 1, 1, 1, 1, 1, 1, 1, 1, 1, 1, 1, 1, 1, 1, 1, 1, 1, 1, 1, 1, 1, 1, 1, 1, 1, 1, 2, 1, 1, 1, 1, 1, 1, 1, 1, 0, 1, 1, 2, 1, 1, 1, 1, 1, 1, 1, 1, 1, 1, 1, 1, 1, 1, 1, 1, 1, 1, 1, 1, 1, 1, 1, 1, 1, 1, 1, 1, 1, 1, 0, 0, 0, 0, 2, 1, 1, 0, 0, 0, 0, 0, 0, 0, 0, 0, 0, 0, 0, 0, 0, 1, 1, 1, 1, 1, 0, 0, 1, 0, 0, 0, 0, 0, 0, 0, 0, 0, 0, 0, 0, 0, 1, 0, 0, 1, 1, 1, 1, 1, 1, 1, 1, 1, 1, 1, 1, 1, 1, 1, 1, 1, 1, 1, 1, 1, 1, 1, 1, 1, 1, 1, 1, 1, 1, 1, 1, 1, 1, 1, 1, 1, 1, 1, 1, 1, 1, 1, 1, 1, 1, 1, 1, 1, 0, 0, 0, 0, 0, 0, 0, 0, 0, 0, 0, 0, 0, 0, 0, 0, 0, 0, 0, 0, 0, 0, 0, 9]
def pwKd (i k : Nat) : Bool := decide (pwKind[i]? = some k)
def pwChkX (e : pwE) : Bool := match e.2.1 with
  | .invokestatic _ => Nat.ble 1000 e.2.2.2.1 || (pwKd e.2.2.2.1 0 && (match pwMeth e.2.2.2.1 with
    | some mc => mc.2.2.2.1.isEmpty || Nat.beq e.2.2.2.2.1 0
    | none => false))
  | .invokevirtual _ => pwKd e.2.2.2.1 1 && (match pwMeth e.2.2.2.1 with
    | some mc => mc.2.2.2.1.isEmpty
    | none => false)
  | .invokespecial _ => Nat.ble 1000 e.2.2.2.1 || (pwKd e.2.2.2.1 2 && (match pwMeth e.2.2.2.1 with
    | some mc => mc.2.2.2.1.isEmpty && decide (mc.2.1.2.1 = none)
    | none => false))
  | _ => true
def pwChkY (mt : pwMT) : Bool := mt.2.2.2.2.all fun c => c.2.all pwChkX
theorem pwYs_0 : pwMs_0.all pwChkY = true := by decide +kernel
theorem pwCs_0 : ∀ mt ∈ pwMs_0, pwChkC mt = true := by
  simp only [pwMs_0, List.forall_mem_cons]
  exact ⟨pwFc_X0_init, pwFc_X0_forgetAll, pwFc_X0_remember, pwFc_X0_takeBack, pwFc_X0_stateAt, pwFc_X1_init, pwFc_X1_numberOf, pwFc_X1_longestRise, pwFc_X1_rightLetters, pwFc_X1_mendingExchanges, pwFc_X2_groupFromEnd, pwFc_X2_succeeds, pwFc_X2_hasZerosInPlace, pwFc_X3_init, pwFc_X4_init, pwFc_X4_isStreet, fun _ h => nomatch h⟩
theorem pwYs_1 : pwMs_1.all pwChkY = true := by decide +kernel
theorem pwCs_1 : ∀ mt ∈ pwMs_1, pwChkC mt = true := by
  simp only [pwMs_1, List.forall_mem_cons]
  exact ⟨pwFc_X4_isShift, pwFc_X4_exists, pwFc_X4_isFull, pwFc_X4_removeAll, pwFc_X4_become, pwFc_X4_addStreet, pwFc_X4_cellsOf, pwFc_X4_greenOf, pwFc_X4_redOf, pwFc_X4_shiftOf, pwFc_X4_widthOf, pwFc_X4_changeShift, pwFc_X4_isGreen, pwFc_X4_noteReader, pwFc_X4_forgetReaders, pwFc_X4_readCountOf, fun _ h => nomatch h⟩
theorem pwYs_2 : pwMs_2.all pwChkY = true := by decide +kernel
theorem pwCs_2 : ∀ mt ∈ pwMs_2, pwChkC mt = true := by
  simp only [pwMs_2, List.forall_mem_cons]
  exact ⟨pwFc_X4_readAt, pwFc_X4_pairsReadFalling, pwFc_X5_init, pwFc_X5_isLetter, pwFc_X5_isSetting, pwFc_X5_isTicks, pwFc_X5_makeNew, pwFc_X5_become, pwFc_X5_hasWalker, pwFc_X5_hasPlace, pwFc_X5_isFull, pwFc_X5_mayGrow, pwFc_X5_walkerAt, pwFc_X5_letterOf, pwFc_X5_placeOf, pwFc_X5_standingOf, fun _ h => nomatch h⟩
theorem pwYs_3 : pwMs_3.all pwChkY = true := by decide +kernel
theorem pwCs_3 : ∀ mt ∈ pwMs_3, pwChkC mt = true := by
  simp only [pwMs_3, List.forall_mem_cons]
  exact ⟨pwFc_X5_hasCome, pwFc_X5_come, pwFc_X5_allHaveCome, pwFc_X5_countStanding, pwFc_X5_countOnStreet, pwFc_X5_walkerInCell, pwFc_X5_isInCell, pwFc_X5_wrongPairs, pwFc_X5_numberOfWalker, pwFc_X5_numberOfStreet, pwFc_X5_addWalker, pwFc_X5_changeLetter, pwFc_X5_swapWalkers, pwFc_X5_sendBack, pwFc_X5_changeSetting, pwFc_X5_triesWalker, fun _ h => nomatch h⟩
theorem pwYs_4 : pwMs_4.all pwChkY = true := by decide +kernel
theorem pwCs_4 : ∀ mt ∈ pwMs_4, pwChkC mt = true := by
  simp only [pwMs_4, List.forall_mem_cons]
  exact ⟨pwFc_X5_triesStreet, pwFc_X5_triesShift, pwFc_X5_triesExchange, pwFc_X5_triesSetting, pwFc_X5_triesTicks, pwFc_X5_ticksUntilAllIn, pwFc_X5_runWhileAnyoneWalks, pwFc_X5_tick, pwFc_X5_endOf, pwFc_X5_mayLeave, pwFc_X5_leave, pwFc_X5_leavingPlace, pwFc_X5_lowestPlace, pwFc_X5_bringForward, pwFc_X5_joinsCrowd, pwFc_X5_moveOn, fun _ h => nomatch h⟩
theorem pwYs_5 : pwMs_5.all pwChkY = true := by decide +kernel
theorem pwCs_5 : ∀ mt ∈ pwMs_5, pwChkC mt = true := by
  simp only [pwMs_5, List.forall_mem_cons]
  exact ⟨pwFc_X5_mix, pwFc_X5_swapPlaces, pwFc_X5_stand, pwFc_X6_init, pwFc_X6_isFull, pwFc_X6_addSign, pwFc_X6_emptied, pwFc_X6_firstError, pwFc_X6_beginReading, pwFc_X6_endsCommand, pwFc_X6_takes, pwFc_X6_takesLetter, pwFc_X6_rangesOf, pwFc_X6_takesNumberSign, pwFc_X6_carriesOut, pwFc_X7_init, fun _ h => nomatch h⟩
theorem pwYs_6 : pwMs_6.all pwChkY = true := by decide +kernel
theorem pwCs_6 : ∀ mt ∈ pwMs_6, pwChkC mt = true := by
  simp only [pwMs_6, List.forall_mem_cons]
  exact ⟨pwFc_X7_append, pwFc_X7_clearText, pwFc_X7_errorPosition, pwFc_X7_load, pwFc_X7_about, pwFc_X7_walkerOf, pwFc_X7_streetOf, pwFc_X7_cell, pwFc_X7_file, pwFc_X7_read, pwFc_X7_walker, pwFc_X7_street, pwFc_X7_shift, pwFc_X7_letter, pwFc_X7_exchange, pwFc_X7_back, fun _ h => nomatch h⟩
theorem pwYs_7 : pwMs_7.all pwChkY = true := by decide +kernel
theorem pwCs_7 : ∀ mt ∈ pwMs_7, pwChkC mt = true := by
  simp only [pwMs_7, List.forall_mem_cons]
  exact ⟨pwFc_X7_set, pwFc_X7_ticks, pwFc_X7_undo, pwFc_X7_allIn, pwFc_X7_later, pwFc_X7_bestRule, pwFc_X7_bestShift, pwFc_X7_bestExchange, pwFc_X7_gainOnTrial, pwFc_X7_runScript, pwFc_X7_simulate, pwFc_X7_takeTurn, pwFc_X7_save, pwFc_X7_restore, pwFc_X7_at, pwFc_X7_put, fun _ h => nomatch h⟩
theorem pwYs_8 : pwMs_8.all pwChkY = true := by decide +kernel
theorem pwCs_8 : ∀ mt ∈ pwMs_8, pwChkC mt = true := by
  simp only [pwMs_8, List.forall_mem_cons]
  exact ⟨pwFc_X7_copyRow, pwFc_X7_pairsFalling, pwFc_X8_init, pwFc_X8_thrown, pwFc_X8_refused, pwFc_X8_in, pwFc_X8_tens, pwFc_X8_fresh, pwFc_X8_copy, pwFc_X8_isWalker, pwFc_X8_isStreet, pwFc_X8_isShift, pwFc_X8_isLetter, pwFc_X8_isSetting, pwFc_X8_isLaid, pwFc_X8_block, fun _ h => nomatch h⟩
theorem pwYs_9 : pwMs_9.all pwChkY = true := by decide +kernel
theorem pwCs_9 : ∀ mt ∈ pwMs_9, pwChkC mt = true := by
  simp only [pwMs_9, List.forall_mem_cons]
  exact ⟨pwFc_X8_isGreen, pwFc_X8_slot, pwFc_X8_spot, pwFc_X8_layFile, pwFc_X8_wrong, pwFc_X8_longest, pwFc_X8_right, pwFc_X8_exchanges, pwFc_X8_inCells, pwFc_X8_all, pwFc_X8_told, pwFc_X8_drawn, pwFc_X8_chosen, pwFc_X8_leave, pwFc_X8_walk, pwFc_X8_pass, fun _ h => nomatch h⟩
theorem pwYs_10 : pwMs_10.all pwChkY = true := by decide +kernel
theorem pwCs_10 : ∀ mt ∈ pwMs_10, pwChkC mt = true := by
  simp only [pwMs_10, List.forall_mem_cons]
  exact ⟨pwFc_X8_setOut, pwFc_X8_tick, pwFc_X8_goTicks, pwFc_X8_goWalker, pwFc_X8_canStreet, pwFc_X8_goStreet, pwFc_X8_put, pwFc_X8_canExchange, pwFc_X8_goExchange, pwFc_X8_goBack, pwFc_X8_goIn, pwFc_X8_remember, pwFc_X8_append, pwFc_X8_clearText, pwFc_X8_here, pwFc_X8_take, fun _ h => nomatch h⟩
theorem pwYs_11 : pwMs_11.all pwChkY = true := by decide +kernel
theorem pwCs_11 : ∀ mt ∈ pwMs_11, pwChkC mt = true := by
  simp only [pwMs_11, List.forall_mem_cons]
  exact ⟨pwFc_X8_digit, pwFc_X8_two, pwFc_X8_goes, pwFc_X8_readWalker, pwFc_X8_readStreet, pwFc_X8_readExchange, pwFc_X8_readNumber, pwFc_X8_readCommand, pwFc_X8_readAll, pwFc_X8_errorPosition, pwFc_X8_load, pwFc_X8_about, pwFc_X8_placeInFile, pwFc_X8_walkerOf, pwFc_X8_readWrong, pwFc_X8_streetOf, fun _ h => nomatch h⟩
theorem pwYs_12 : pwMs_12.all pwChkY = true := by decide +kernel
theorem pwCs_12 : ∀ mt ∈ pwMs_12, pwChkC mt = true := by
  simp only [pwMs_12, List.forall_mem_cons]
  exact ⟨pwFc_X8_cell, pwFc_X8_file, pwFc_X8_read, pwFc_X8_walker, pwFc_X8_street, pwFc_X8_shift, pwFc_X8_letter, pwFc_X8_exchange, pwFc_X8_back, pwFc_X8_set, pwFc_X8_ticks, pwFc_X8_undo, pwFc_X8_allIn, pwFc_X8_later, pwFc_X8_bestRule, pwFc_X8_bestShift, fun _ h => nomatch h⟩
theorem pwYs_13 : pwMs_13.all pwChkY = true := by decide +kernel
theorem pwCs_13 : ∀ mt ∈ pwMs_13, pwChkC mt = true := by
  simp only [pwMs_13, List.forall_mem_cons]
  exact ⟨pwFc_X8_bestExchange, pwFc_X8_runTicks, pwFc_X8_runExchange, pwFc_X8_runShift, pwFc_X8_runSet, pwFc_X8_isAt, pwFc_X8_command, pwFc_X8_runScript, pwFc_X8_stir, pwFc_X8_simulate, pwFc_X8_save, pwFc_X8_restore, pwFc_L_append, pwFc_L_load, pwFc_L_about, pwFc_L_walkerOf, fun _ h => nomatch h⟩
theorem pwYs_14 : pwMs_14.all pwChkY = true := by decide +kernel
theorem pwCs_14 : ∀ mt ∈ pwMs_14, pwChkC mt = true := by
  simp only [pwMs_14, List.forall_mem_cons]
  exact ⟨pwFc_L_streetOf, pwFc_L_cell, pwFc_L_file, pwFc_L_read, pwFc_L_walker, pwFc_L_street, pwFc_L_shift, pwFc_L_letter, pwFc_L_exchange, pwFc_L_set, pwFc_L_ticks, pwFc_L_undo, pwFc_L_later, pwFc_L_bestShift, pwFc_L_bestExchange, pwFc_L_runScript, fun _ h => nomatch h⟩
theorem pwYs_15 : pwMs_15.all pwChkY = true := by decide +kernel
theorem pwCs_15 : ∀ mt ∈ pwMs_15, pwChkC mt = true := by
  simp only [pwMs_15, List.forall_mem_cons]
  exact ⟨pwFc_L_simulate, pwFc_L_save, pwFc_L_restore, pwFc_L_law, fun _ h => nomatch h⟩
theorem pwKs_0 : ∀ i mt, pwMs_0[i]? = some mt → 0 + i ≠ 243 → ∃ q, pwChkM mt q = true ∧ pwKind[0 + i]? = some q.1
  | 0, _, h, _ => by cases h; exact ⟨_, pwFm_X0_init, rfl⟩
  | 1, _, h, _ => by cases h; exact ⟨_, pwFm_X0_forgetAll, rfl⟩
  | 2, _, h, _ => by cases h; exact ⟨_, pwFm_X0_remember, rfl⟩
  | 3, _, h, _ => by cases h; exact ⟨_, pwFm_X0_takeBack, rfl⟩
  | 4, _, h, _ => by cases h; exact ⟨_, pwFm_X0_stateAt, rfl⟩
  | 5, _, h, _ => by cases h; exact ⟨_, pwFm_X1_init, rfl⟩
  | 6, _, h, _ => by cases h; exact ⟨_, pwFm_X1_numberOf, rfl⟩
  | 7, _, h, _ => by cases h; exact ⟨_, pwFm_X1_longestRise, rfl⟩
  | 8, _, h, _ => by cases h; exact ⟨_, pwFm_X1_rightLetters, rfl⟩
  | 9, _, h, _ => by cases h; exact ⟨_, pwFm_X1_mendingExchanges, rfl⟩
  | 10, _, h, _ => by cases h; exact ⟨_, pwFm_X2_groupFromEnd, rfl⟩
  | 11, _, h, _ => by cases h; exact ⟨_, pwFm_X2_succeeds, rfl⟩
  | 12, _, h, _ => by cases h; exact ⟨_, pwFm_X2_hasZerosInPlace, rfl⟩
  | 13, _, h, _ => by cases h; exact ⟨_, pwFm_X3_init, rfl⟩
  | 14, _, h, _ => by cases h; exact ⟨_, pwFm_X4_init, rfl⟩
  | 15, _, h, _ => by cases h; exact ⟨_, pwFm_X4_isStreet, rfl⟩
  | n9 + 16, _, h, _ => by cases h
theorem pwKs_1 : ∀ i mt, pwMs_1[i]? = some mt → 16 + i ≠ 243 → ∃ q, pwChkM mt q = true ∧ pwKind[16 + i]? = some q.1
  | 0, _, h, _ => by cases h; exact ⟨_, pwFm_X4_isShift, rfl⟩
  | 1, _, h, _ => by cases h; exact ⟨_, pwFm_X4_exists, rfl⟩
  | 2, _, h, _ => by cases h; exact ⟨_, pwFm_X4_isFull, rfl⟩
  | 3, _, h, _ => by cases h; exact ⟨_, pwFm_X4_removeAll, rfl⟩
  | 4, _, h, _ => by cases h; exact ⟨_, pwFm_X4_become, rfl⟩
  | 5, _, h, _ => by cases h; exact ⟨_, pwFm_X4_addStreet, rfl⟩
  | 6, _, h, _ => by cases h; exact ⟨_, pwFm_X4_cellsOf, rfl⟩
  | 7, _, h, _ => by cases h; exact ⟨_, pwFm_X4_greenOf, rfl⟩
  | 8, _, h, _ => by cases h; exact ⟨_, pwFm_X4_redOf, rfl⟩
  | 9, _, h, _ => by cases h; exact ⟨_, pwFm_X4_shiftOf, rfl⟩
  | 10, _, h, _ => by cases h; exact ⟨_, pwFm_X4_widthOf, rfl⟩
  | 11, _, h, _ => by cases h; exact ⟨_, pwFm_X4_changeShift, rfl⟩
  | 12, _, h, _ => by cases h; exact ⟨_, pwFm_X4_isGreen, rfl⟩
  | 13, _, h, _ => by cases h; exact ⟨_, pwFm_X4_noteReader, rfl⟩
  | 14, _, h, _ => by cases h; exact ⟨_, pwFm_X4_forgetReaders, rfl⟩
  | 15, _, h, _ => by cases h; exact ⟨_, pwFm_X4_readCountOf, rfl⟩
  | n9 + 16, _, h, _ => by cases h
theorem pwKs_2 : ∀ i mt, pwMs_2[i]? = some mt → 32 + i ≠ 243 → ∃ q, pwChkM mt q = true ∧ pwKind[32 + i]? = some q.1
  | 0, _, h, _ => by cases h; exact ⟨_, pwFm_X4_readAt, rfl⟩
  | 1, _, h, _ => by cases h; exact ⟨_, pwFm_X4_pairsReadFalling, rfl⟩
  | 2, _, h, _ => by cases h; exact ⟨_, pwFm_X5_init, rfl⟩
  | 3, _, h, _ => by cases h; exact ⟨_, pwFm_X5_isLetter, rfl⟩
  | 4, _, h, _ => by cases h; exact ⟨_, pwFm_X5_isSetting, rfl⟩
  | 5, _, h, _ => by cases h; exact ⟨_, pwFm_X5_isTicks, rfl⟩
  | 6, _, h, _ => by cases h; exact ⟨_, pwFm_X5_makeNew, rfl⟩
  | 7, _, h, _ => by cases h; exact ⟨_, pwFm_X5_become, rfl⟩
  | 8, _, h, _ => by cases h; exact ⟨_, pwFm_X5_hasWalker, rfl⟩
  | 9, _, h, _ => by cases h; exact ⟨_, pwFm_X5_hasPlace, rfl⟩
  | 10, _, h, _ => by cases h; exact ⟨_, pwFm_X5_isFull, rfl⟩
  | 11, _, h, _ => by cases h; exact ⟨_, pwFm_X5_mayGrow, rfl⟩
  | 12, _, h, _ => by cases h; exact ⟨_, pwFm_X5_walkerAt, rfl⟩
  | 13, _, h, _ => by cases h; exact ⟨_, pwFm_X5_letterOf, rfl⟩
  | 14, _, h, _ => by cases h; exact ⟨_, pwFm_X5_placeOf, rfl⟩
  | 15, _, h, _ => by cases h; exact ⟨_, pwFm_X5_standingOf, rfl⟩
  | n9 + 16, _, h, _ => by cases h
theorem pwKs_3 : ∀ i mt, pwMs_3[i]? = some mt → 48 + i ≠ 243 → ∃ q, pwChkM mt q = true ∧ pwKind[48 + i]? = some q.1
  | 0, _, h, _ => by cases h; exact ⟨_, pwFm_X5_hasCome, rfl⟩
  | 1, _, h, _ => by cases h; exact ⟨_, pwFm_X5_come, rfl⟩
  | 2, _, h, _ => by cases h; exact ⟨_, pwFm_X5_allHaveCome, rfl⟩
  | 3, _, h, _ => by cases h; exact ⟨_, pwFm_X5_countStanding, rfl⟩
  | 4, _, h, _ => by cases h; exact ⟨_, pwFm_X5_countOnStreet, rfl⟩
  | 5, _, h, _ => by cases h; exact ⟨_, pwFm_X5_walkerInCell, rfl⟩
  | 6, _, h, _ => by cases h; exact ⟨_, pwFm_X5_isInCell, rfl⟩
  | 7, _, h, _ => by cases h; exact ⟨_, pwFm_X5_wrongPairs, rfl⟩
  | 8, _, h, _ => by cases h; exact ⟨_, pwFm_X5_numberOfWalker, rfl⟩
  | 9, _, h, _ => by cases h; exact ⟨_, pwFm_X5_numberOfStreet, rfl⟩
  | 10, _, h, _ => by cases h; exact ⟨_, pwFm_X5_addWalker, rfl⟩
  | 11, _, h, _ => by cases h; exact ⟨_, pwFm_X5_changeLetter, rfl⟩
  | 12, _, h, _ => by cases h; exact ⟨_, pwFm_X5_swapWalkers, rfl⟩
  | 13, _, h, _ => by cases h; exact ⟨_, pwFm_X5_sendBack, rfl⟩
  | 14, _, h, _ => by cases h; exact ⟨_, pwFm_X5_changeSetting, rfl⟩
  | 15, _, h, _ => by cases h; exact ⟨_, pwFm_X5_triesWalker, rfl⟩
  | n9 + 16, _, h, _ => by cases h
theorem pwKs_4 : ∀ i mt, pwMs_4[i]? = some mt → 64 + i ≠ 243 → ∃ q, pwChkM mt q = true ∧ pwKind[64 + i]? = some q.1
  | 0, _, h, _ => by cases h; exact ⟨_, pwFm_X5_triesStreet, rfl⟩
  | 1, _, h, _ => by cases h; exact ⟨_, pwFm_X5_triesShift, rfl⟩
  | 2, _, h, _ => by cases h; exact ⟨_, pwFm_X5_triesExchange, rfl⟩
  | 3, _, h, _ => by cases h; exact ⟨_, pwFm_X5_triesSetting, rfl⟩
  | 4, _, h, _ => by cases h; exact ⟨_, pwFm_X5_triesTicks, rfl⟩
  | 5, _, h, _ => by cases h; exact ⟨_, pwFm_X5_ticksUntilAllIn, rfl⟩
  | 6, _, h, _ => by cases h; exact ⟨_, pwFm_X5_runWhileAnyoneWalks, rfl⟩
  | 7, _, h, _ => by cases h; exact ⟨_, pwFm_X5_tick, rfl⟩
  | 8, _, h, _ => by cases h; exact ⟨_, pwFm_X5_endOf, rfl⟩
  | 9, _, h, _ => by cases h; exact ⟨_, pwFm_X5_mayLeave, rfl⟩
  | 10, _, h, _ => by cases h; exact ⟨_, pwFm_X5_leave, rfl⟩
  | 11, _, h, _ => by cases h; exact ⟨_, pwFm_X5_leavingPlace, rfl⟩
  | 12, _, h, _ => by cases h; exact ⟨_, pwFm_X5_lowestPlace, rfl⟩
  | 13, _, h, _ => by cases h; exact ⟨_, pwFm_X5_bringForward, rfl⟩
  | 14, _, h, _ => by cases h; exact ⟨_, pwFm_X5_joinsCrowd, rfl⟩
  | 15, _, h, _ => by cases h; exact ⟨_, pwFm_X5_moveOn, rfl⟩
  | n9 + 16, _, h, _ => by cases h
theorem pwKs_5 : ∀ i mt, pwMs_5[i]? = some mt → 80 + i ≠ 243 → ∃ q, pwChkM mt q = true ∧ pwKind[80 + i]? = some q.1
  | 0, _, h, _ => by cases h; exact ⟨_, pwFm_X5_mix, rfl⟩
  | 1, _, h, _ => by cases h; exact ⟨_, pwFm_X5_swapPlaces, rfl⟩
  | 2, _, h, _ => by cases h; exact ⟨_, pwFm_X5_stand, rfl⟩
  | 3, _, h, _ => by cases h; exact ⟨_, pwFm_X6_init, rfl⟩
  | 4, _, h, _ => by cases h; exact ⟨_, pwFm_X6_isFull, rfl⟩
  | 5, _, h, _ => by cases h; exact ⟨_, pwFm_X6_addSign, rfl⟩
  | 6, _, h, _ => by cases h; exact ⟨_, pwFm_X6_emptied, rfl⟩
  | 7, _, h, _ => by cases h; exact ⟨_, pwFm_X6_firstError, rfl⟩
  | 8, _, h, _ => by cases h; exact ⟨_, pwFm_X6_beginReading, rfl⟩
  | 9, _, h, _ => by cases h; exact ⟨_, pwFm_X6_endsCommand, rfl⟩
  | 10, _, h, _ => by cases h; exact ⟨_, pwFm_X6_takes, rfl⟩
  | 11, _, h, _ => by cases h; exact ⟨_, pwFm_X6_takesLetter, rfl⟩
  | 12, _, h, _ => by cases h; exact ⟨_, pwFm_X6_rangesOf, rfl⟩
  | 13, _, h, _ => by cases h; exact ⟨_, pwFm_X6_takesNumberSign, rfl⟩
  | 14, _, h, _ => by cases h; exact ⟨_, pwFm_X6_carriesOut, rfl⟩
  | 15, _, h, _ => by cases h; exact ⟨_, pwFm_X7_init, rfl⟩
  | n9 + 16, _, h, _ => by cases h
theorem pwKs_6 : ∀ i mt, pwMs_6[i]? = some mt → 96 + i ≠ 243 → ∃ q, pwChkM mt q = true ∧ pwKind[96 + i]? = some q.1
  | 0, _, h, _ => by cases h; exact ⟨_, pwFm_X7_append, rfl⟩
  | 1, _, h, _ => by cases h; exact ⟨_, pwFm_X7_clearText, rfl⟩
  | 2, _, h, _ => by cases h; exact ⟨_, pwFm_X7_errorPosition, rfl⟩
  | 3, _, h, _ => by cases h; exact ⟨_, pwFm_X7_load, rfl⟩
  | 4, _, h, _ => by cases h; exact ⟨_, pwFm_X7_about, rfl⟩
  | 5, _, h, _ => by cases h; exact ⟨_, pwFm_X7_walkerOf, rfl⟩
  | 6, _, h, _ => by cases h; exact ⟨_, pwFm_X7_streetOf, rfl⟩
  | 7, _, h, _ => by cases h; exact ⟨_, pwFm_X7_cell, rfl⟩
  | 8, _, h, _ => by cases h; exact ⟨_, pwFm_X7_file, rfl⟩
  | 9, _, h, _ => by cases h; exact ⟨_, pwFm_X7_read, rfl⟩
  | 10, _, h, _ => by cases h; exact ⟨_, pwFm_X7_walker, rfl⟩
  | 11, _, h, _ => by cases h; exact ⟨_, pwFm_X7_street, rfl⟩
  | 12, _, h, _ => by cases h; exact ⟨_, pwFm_X7_shift, rfl⟩
  | 13, _, h, _ => by cases h; exact ⟨_, pwFm_X7_letter, rfl⟩
  | 14, _, h, _ => by cases h; exact ⟨_, pwFm_X7_exchange, rfl⟩
  | 15, _, h, _ => by cases h; exact ⟨_, pwFm_X7_back, rfl⟩
  | n9 + 16, _, h, _ => by cases h
theorem pwKs_7 : ∀ i mt, pwMs_7[i]? = some mt → 112 + i ≠ 243 → ∃ q, pwChkM mt q = true ∧ pwKind[112 + i]? = some q.1
  | 0, _, h, _ => by cases h; exact ⟨_, pwFm_X7_set, rfl⟩
  | 1, _, h, _ => by cases h; exact ⟨_, pwFm_X7_ticks, rfl⟩
  | 2, _, h, _ => by cases h; exact ⟨_, pwFm_X7_undo, rfl⟩
  | 3, _, h, _ => by cases h; exact ⟨_, pwFm_X7_allIn, rfl⟩
  | 4, _, h, _ => by cases h; exact ⟨_, pwFm_X7_later, rfl⟩
  | 5, _, h, _ => by cases h; exact ⟨_, pwFm_X7_bestRule, rfl⟩
  | 6, _, h, _ => by cases h; exact ⟨_, pwFm_X7_bestShift, rfl⟩
  | 7, _, h, _ => by cases h; exact ⟨_, pwFm_X7_bestExchange, rfl⟩
  | 8, _, h, _ => by cases h; exact ⟨_, pwFm_X7_gainOnTrial, rfl⟩
  | 9, _, h, _ => by cases h; exact ⟨_, pwFm_X7_runScript, rfl⟩
  | 10, _, h, _ => by cases h; exact ⟨_, pwFm_X7_simulate, rfl⟩
  | 11, _, h, _ => by cases h; exact ⟨_, pwFm_X7_takeTurn, rfl⟩
  | 12, _, h, _ => by cases h; exact ⟨_, pwFm_X7_save, rfl⟩
  | 13, _, h, _ => by cases h; exact ⟨_, pwFm_X7_restore, rfl⟩
  | 14, _, h, _ => by cases h; exact ⟨_, pwFm_X7_at, rfl⟩
  | 15, _, h, _ => by cases h; exact ⟨_, pwFm_X7_put, rfl⟩
  | n9 + 16, _, h, _ => by cases h
theorem pwKs_8 : ∀ i mt, pwMs_8[i]? = some mt → 128 + i ≠ 243 → ∃ q, pwChkM mt q = true ∧ pwKind[128 + i]? = some q.1
  | 0, _, h, _ => by cases h; exact ⟨_, pwFm_X7_copyRow, rfl⟩
  | 1, _, h, _ => by cases h; exact ⟨_, pwFm_X7_pairsFalling, rfl⟩
  | 2, _, h, _ => by cases h; exact ⟨_, pwFm_X8_init, rfl⟩
  | 3, _, h, _ => by cases h; exact ⟨_, pwFm_X8_thrown, rfl⟩
  | 4, _, h, _ => by cases h; exact ⟨_, pwFm_X8_refused, rfl⟩
  | 5, _, h, _ => by cases h; exact ⟨_, pwFm_X8_in, rfl⟩
  | 6, _, h, _ => by cases h; exact ⟨_, pwFm_X8_tens, rfl⟩
  | 7, _, h, _ => by cases h; exact ⟨_, pwFm_X8_fresh, rfl⟩
  | 8, _, h, _ => by cases h; exact ⟨_, pwFm_X8_copy, rfl⟩
  | 9, _, h, _ => by cases h; exact ⟨_, pwFm_X8_isWalker, rfl⟩
  | 10, _, h, _ => by cases h; exact ⟨_, pwFm_X8_isStreet, rfl⟩
  | 11, _, h, _ => by cases h; exact ⟨_, pwFm_X8_isShift, rfl⟩
  | 12, _, h, _ => by cases h; exact ⟨_, pwFm_X8_isLetter, rfl⟩
  | 13, _, h, _ => by cases h; exact ⟨_, pwFm_X8_isSetting, rfl⟩
  | 14, _, h, _ => by cases h; exact ⟨_, pwFm_X8_isLaid, rfl⟩
  | 15, _, h, _ => by cases h; exact ⟨_, pwFm_X8_block, rfl⟩
  | n9 + 16, _, h, _ => by cases h
theorem pwKs_9 : ∀ i mt, pwMs_9[i]? = some mt → 144 + i ≠ 243 → ∃ q, pwChkM mt q = true ∧ pwKind[144 + i]? = some q.1
  | 0, _, h, _ => by cases h; exact ⟨_, pwFm_X8_isGreen, rfl⟩
  | 1, _, h, _ => by cases h; exact ⟨_, pwFm_X8_slot, rfl⟩
  | 2, _, h, _ => by cases h; exact ⟨_, pwFm_X8_spot, rfl⟩
  | 3, _, h, _ => by cases h; exact ⟨_, pwFm_X8_layFile, rfl⟩
  | 4, _, h, _ => by cases h; exact ⟨_, pwFm_X8_wrong, rfl⟩
  | 5, _, h, _ => by cases h; exact ⟨_, pwFm_X8_longest, rfl⟩
  | 6, _, h, _ => by cases h; exact ⟨_, pwFm_X8_right, rfl⟩
  | 7, _, h, _ => by cases h; exact ⟨_, pwFm_X8_exchanges, rfl⟩
  | 8, _, h, _ => by cases h; exact ⟨_, pwFm_X8_inCells, rfl⟩
  | 9, _, h, _ => by cases h; exact ⟨_, pwFm_X8_all, rfl⟩
  | 10, _, h, _ => by cases h; exact ⟨_, pwFm_X8_told, rfl⟩
  | 11, _, h, _ => by cases h; exact ⟨_, pwFm_X8_drawn, rfl⟩
  | 12, _, h, _ => by cases h; exact ⟨_, pwFm_X8_chosen, rfl⟩
  | 13, _, h, _ => by cases h; exact ⟨_, pwFm_X8_leave, rfl⟩
  | 14, _, h, _ => by cases h; exact ⟨_, pwFm_X8_walk, rfl⟩
  | 15, _, h, _ => by cases h; exact ⟨_, pwFm_X8_pass, rfl⟩
  | n9 + 16, _, h, _ => by cases h
theorem pwKs_10 : ∀ i mt, pwMs_10[i]? = some mt → 160 + i ≠ 243 → ∃ q, pwChkM mt q = true ∧ pwKind[160 + i]? = some q.1
  | 0, _, h, _ => by cases h; exact ⟨_, pwFm_X8_setOut, rfl⟩
  | 1, _, h, _ => by cases h; exact ⟨_, pwFm_X8_tick, rfl⟩
  | 2, _, h, _ => by cases h; exact ⟨_, pwFm_X8_goTicks, rfl⟩
  | 3, _, h, _ => by cases h; exact ⟨_, pwFm_X8_goWalker, rfl⟩
  | 4, _, h, _ => by cases h; exact ⟨_, pwFm_X8_canStreet, rfl⟩
  | 5, _, h, _ => by cases h; exact ⟨_, pwFm_X8_goStreet, rfl⟩
  | 6, _, h, _ => by cases h; exact ⟨_, pwFm_X8_put, rfl⟩
  | 7, _, h, _ => by cases h; exact ⟨_, pwFm_X8_canExchange, rfl⟩
  | 8, _, h, _ => by cases h; exact ⟨_, pwFm_X8_goExchange, rfl⟩
  | 9, _, h, _ => by cases h; exact ⟨_, pwFm_X8_goBack, rfl⟩
  | 10, _, h, _ => by cases h; exact ⟨_, pwFm_X8_goIn, rfl⟩
  | 11, _, h, _ => by cases h; exact ⟨_, pwFm_X8_remember, rfl⟩
  | 12, _, h, _ => by cases h; exact ⟨_, pwFm_X8_append, rfl⟩
  | 13, _, h, _ => by cases h; exact ⟨_, pwFm_X8_clearText, rfl⟩
  | 14, _, h, _ => by cases h; exact ⟨_, pwFm_X8_here, rfl⟩
  | 15, _, h, _ => by cases h; exact ⟨_, pwFm_X8_take, rfl⟩
  | n9 + 16, _, h, _ => by cases h
theorem pwKs_11 : ∀ i mt, pwMs_11[i]? = some mt → 176 + i ≠ 243 → ∃ q, pwChkM mt q = true ∧ pwKind[176 + i]? = some q.1
  | 0, _, h, _ => by cases h; exact ⟨_, pwFm_X8_digit, rfl⟩
  | 1, _, h, _ => by cases h; exact ⟨_, pwFm_X8_two, rfl⟩
  | 2, _, h, _ => by cases h; exact ⟨_, pwFm_X8_goes, rfl⟩
  | 3, _, h, _ => by cases h; exact ⟨_, pwFm_X8_readWalker, rfl⟩
  | 4, _, h, _ => by cases h; exact ⟨_, pwFm_X8_readStreet, rfl⟩
  | 5, _, h, _ => by cases h; exact ⟨_, pwFm_X8_readExchange, rfl⟩
  | 6, _, h, _ => by cases h; exact ⟨_, pwFm_X8_readNumber, rfl⟩
  | 7, _, h, _ => by cases h; exact ⟨_, pwFm_X8_readCommand, rfl⟩
  | 8, _, h, _ => by cases h; exact ⟨_, pwFm_X8_readAll, rfl⟩
  | 9, _, h, _ => by cases h; exact ⟨_, pwFm_X8_errorPosition, rfl⟩
  | 10, _, h, _ => by cases h; exact ⟨_, pwFm_X8_load, rfl⟩
  | 11, _, h, _ => by cases h; exact ⟨_, pwFm_X8_about, rfl⟩
  | 12, _, h, _ => by cases h; exact ⟨_, pwFm_X8_placeInFile, rfl⟩
  | 13, _, h, _ => by cases h; exact ⟨_, pwFm_X8_walkerOf, rfl⟩
  | 14, _, h, _ => by cases h; exact ⟨_, pwFm_X8_readWrong, rfl⟩
  | 15, _, h, _ => by cases h; exact ⟨_, pwFm_X8_streetOf, rfl⟩
  | n9 + 16, _, h, _ => by cases h
theorem pwKs_12 : ∀ i mt, pwMs_12[i]? = some mt → 192 + i ≠ 243 → ∃ q, pwChkM mt q = true ∧ pwKind[192 + i]? = some q.1
  | 0, _, h, _ => by cases h; exact ⟨_, pwFm_X8_cell, rfl⟩
  | 1, _, h, _ => by cases h; exact ⟨_, pwFm_X8_file, rfl⟩
  | 2, _, h, _ => by cases h; exact ⟨_, pwFm_X8_read, rfl⟩
  | 3, _, h, _ => by cases h; exact ⟨_, pwFm_X8_walker, rfl⟩
  | 4, _, h, _ => by cases h; exact ⟨_, pwFm_X8_street, rfl⟩
  | 5, _, h, _ => by cases h; exact ⟨_, pwFm_X8_shift, rfl⟩
  | 6, _, h, _ => by cases h; exact ⟨_, pwFm_X8_letter, rfl⟩
  | 7, _, h, _ => by cases h; exact ⟨_, pwFm_X8_exchange, rfl⟩
  | 8, _, h, _ => by cases h; exact ⟨_, pwFm_X8_back, rfl⟩
  | 9, _, h, _ => by cases h; exact ⟨_, pwFm_X8_set, rfl⟩
  | 10, _, h, _ => by cases h; exact ⟨_, pwFm_X8_ticks, rfl⟩
  | 11, _, h, _ => by cases h; exact ⟨_, pwFm_X8_undo, rfl⟩
  | 12, _, h, _ => by cases h; exact ⟨_, pwFm_X8_allIn, rfl⟩
  | 13, _, h, _ => by cases h; exact ⟨_, pwFm_X8_later, rfl⟩
  | 14, _, h, _ => by cases h; exact ⟨_, pwFm_X8_bestRule, rfl⟩
  | 15, _, h, _ => by cases h; exact ⟨_, pwFm_X8_bestShift, rfl⟩
  | n9 + 16, _, h, _ => by cases h
theorem pwKs_13 : ∀ i mt, pwMs_13[i]? = some mt → 208 + i ≠ 243 → ∃ q, pwChkM mt q = true ∧ pwKind[208 + i]? = some q.1
  | 0, _, h, _ => by cases h; exact ⟨_, pwFm_X8_bestExchange, rfl⟩
  | 1, _, h, _ => by cases h; exact ⟨_, pwFm_X8_runTicks, rfl⟩
  | 2, _, h, _ => by cases h; exact ⟨_, pwFm_X8_runExchange, rfl⟩
  | 3, _, h, _ => by cases h; exact ⟨_, pwFm_X8_runShift, rfl⟩
  | 4, _, h, _ => by cases h; exact ⟨_, pwFm_X8_runSet, rfl⟩
  | 5, _, h, _ => by cases h; exact ⟨_, pwFm_X8_isAt, rfl⟩
  | 6, _, h, _ => by cases h; exact ⟨_, pwFm_X8_command, rfl⟩
  | 7, _, h, _ => by cases h; exact ⟨_, pwFm_X8_runScript, rfl⟩
  | 8, _, h, _ => by cases h; exact ⟨_, pwFm_X8_stir, rfl⟩
  | 9, _, h, _ => by cases h; exact ⟨_, pwFm_X8_simulate, rfl⟩
  | 10, _, h, _ => by cases h; exact ⟨_, pwFm_X8_save, rfl⟩
  | 11, _, h, _ => by cases h; exact ⟨_, pwFm_X8_restore, rfl⟩
  | 12, _, h, _ => by cases h; exact ⟨_, pwFm_L_append, rfl⟩
  | 13, _, h, _ => by cases h; exact ⟨_, pwFm_L_load, rfl⟩
  | 14, _, h, _ => by cases h; exact ⟨_, pwFm_L_about, rfl⟩
  | 15, _, h, _ => by cases h; exact ⟨_, pwFm_L_walkerOf, rfl⟩
  | n9 + 16, _, h, _ => by cases h
theorem pwKs_14 : ∀ i mt, pwMs_14[i]? = some mt → 224 + i ≠ 243 → ∃ q, pwChkM mt q = true ∧ pwKind[224 + i]? = some q.1
  | 0, _, h, _ => by cases h; exact ⟨_, pwFm_L_streetOf, rfl⟩
  | 1, _, h, _ => by cases h; exact ⟨_, pwFm_L_cell, rfl⟩
  | 2, _, h, _ => by cases h; exact ⟨_, pwFm_L_file, rfl⟩
  | 3, _, h, _ => by cases h; exact ⟨_, pwFm_L_read, rfl⟩
  | 4, _, h, _ => by cases h; exact ⟨_, pwFm_L_walker, rfl⟩
  | 5, _, h, _ => by cases h; exact ⟨_, pwFm_L_street, rfl⟩
  | 6, _, h, _ => by cases h; exact ⟨_, pwFm_L_shift, rfl⟩
  | 7, _, h, _ => by cases h; exact ⟨_, pwFm_L_letter, rfl⟩
  | 8, _, h, _ => by cases h; exact ⟨_, pwFm_L_exchange, rfl⟩
  | 9, _, h, _ => by cases h; exact ⟨_, pwFm_L_set, rfl⟩
  | 10, _, h, _ => by cases h; exact ⟨_, pwFm_L_ticks, rfl⟩
  | 11, _, h, _ => by cases h; exact ⟨_, pwFm_L_undo, rfl⟩
  | 12, _, h, _ => by cases h; exact ⟨_, pwFm_L_later, rfl⟩
  | 13, _, h, _ => by cases h; exact ⟨_, pwFm_L_bestShift, rfl⟩
  | 14, _, h, _ => by cases h; exact ⟨_, pwFm_L_bestExchange, rfl⟩
  | 15, _, h, _ => by cases h; exact ⟨_, pwFm_L_runScript, rfl⟩
  | n9 + 16, _, h, _ => by cases h
theorem pwKs_15 : ∀ i mt, pwMs_15[i]? = some mt → 240 + i ≠ 243 → ∃ q, pwChkM mt q = true ∧ pwKind[240 + i]? = some q.1
  | 0, _, h, _ => by cases h; exact ⟨_, pwFm_L_simulate, rfl⟩
  | 1, _, h, _ => by cases h; exact ⟨_, pwFm_L_save, rfl⟩
  | 2, _, h, _ => by cases h; exact ⟨_, pwFm_L_restore, rfl⟩
  | 3, _, h, hn => absurd rfl hn
  | n9 + 4, _, h, _ => by cases h
theorem pwMeth_at {mi : Nat} {mt : pwMT} (h : pwMeth mi = some mt) : ∃ l9, pwMs[mi / 16]? = some l9 ∧ l9[mi % 16]? = some mt := by
  obtain ⟨l9, h1, h2⟩ := Option.bind_eq_some_iff.mp h
  exact ⟨l9, h1, h2⟩
theorem pwAllC {mi : Nat} {mt : pwMT} (h : pwMeth mi = some mt) : pwChkC mt = true := by
  obtain ⟨l9, h1, h2⟩ := pwMeth_at h
  have hm : mt ∈ l9 := List.mem_of_getElem? h2
  generalize mi / 16 = j9 at h1
  match j9, h1 with
  | 0, h1 => cases h1; exact pwCs_0 _ hm
  | 1, h1 => cases h1; exact pwCs_1 _ hm
  | 2, h1 => cases h1; exact pwCs_2 _ hm
  | 3, h1 => cases h1; exact pwCs_3 _ hm
  | 4, h1 => cases h1; exact pwCs_4 _ hm
  | 5, h1 => cases h1; exact pwCs_5 _ hm
  | 6, h1 => cases h1; exact pwCs_6 _ hm
  | 7, h1 => cases h1; exact pwCs_7 _ hm
  | 8, h1 => cases h1; exact pwCs_8 _ hm
  | 9, h1 => cases h1; exact pwCs_9 _ hm
  | 10, h1 => cases h1; exact pwCs_10 _ hm
  | 11, h1 => cases h1; exact pwCs_11 _ hm
  | 12, h1 => cases h1; exact pwCs_12 _ hm
  | 13, h1 => cases h1; exact pwCs_13 _ hm
  | 14, h1 => cases h1; exact pwCs_14 _ hm
  | 15, h1 => cases h1; exact pwCs_15 _ hm
  | n9 + 16, h1 => cases h1
theorem pwAllY {mi : Nat} {mt : pwMT} (h : pwMeth mi = some mt) : pwChkY mt = true := by
  obtain ⟨l9, h1, h2⟩ := pwMeth_at h
  have hm : mt ∈ l9 := List.mem_of_getElem? h2
  generalize mi / 16 = j9 at h1
  match j9, h1 with
  | 0, h1 => cases h1; exact List.all_eq_true.mp pwYs_0 _ hm
  | 1, h1 => cases h1; exact List.all_eq_true.mp pwYs_1 _ hm
  | 2, h1 => cases h1; exact List.all_eq_true.mp pwYs_2 _ hm
  | 3, h1 => cases h1; exact List.all_eq_true.mp pwYs_3 _ hm
  | 4, h1 => cases h1; exact List.all_eq_true.mp pwYs_4 _ hm
  | 5, h1 => cases h1; exact List.all_eq_true.mp pwYs_5 _ hm
  | 6, h1 => cases h1; exact List.all_eq_true.mp pwYs_6 _ hm
  | 7, h1 => cases h1; exact List.all_eq_true.mp pwYs_7 _ hm
  | 8, h1 => cases h1; exact List.all_eq_true.mp pwYs_8 _ hm
  | 9, h1 => cases h1; exact List.all_eq_true.mp pwYs_9 _ hm
  | 10, h1 => cases h1; exact List.all_eq_true.mp pwYs_10 _ hm
  | 11, h1 => cases h1; exact List.all_eq_true.mp pwYs_11 _ hm
  | 12, h1 => cases h1; exact List.all_eq_true.mp pwYs_12 _ hm
  | 13, h1 => cases h1; exact List.all_eq_true.mp pwYs_13 _ hm
  | 14, h1 => cases h1; exact List.all_eq_true.mp pwYs_14 _ hm
  | 15, h1 => cases h1; exact List.all_eq_true.mp pwYs_15 _ hm
  | n9 + 16, h1 => cases h1
theorem pwAllM {mi : Nat} {mt : pwMT} (h : pwMeth mi = some mt) (hn : mi ≠ 243) : ∃ q, pwChkM mt q = true ∧ pwKind[mi]? = some q.1 := by
  obtain ⟨l9, h1, h2⟩ := pwMeth_at h
  have he : mi = 16 * (mi / 16) + mi % 16 := by omega
  generalize mi / 16 = j9 at h1 he
  generalize mi % 16 = i9 at h2 he
  subst he
  match j9, h1 with
  | 0, h1 => cases h1; exact pwKs_0 i9 mt h2 (by simpa using hn)
  | 1, h1 => cases h1; exact pwKs_1 i9 mt h2 hn
  | 2, h1 => cases h1; exact pwKs_2 i9 mt h2 hn
  | 3, h1 => cases h1; exact pwKs_3 i9 mt h2 hn
  | 4, h1 => cases h1; exact pwKs_4 i9 mt h2 hn
  | 5, h1 => cases h1; exact pwKs_5 i9 mt h2 hn
  | 6, h1 => cases h1; exact pwKs_6 i9 mt h2 hn
  | 7, h1 => cases h1; exact pwKs_7 i9 mt h2 hn
  | 8, h1 => cases h1; exact pwKs_8 i9 mt h2 hn
  | 9, h1 => cases h1; exact pwKs_9 i9 mt h2 hn
  | 10, h1 => cases h1; exact pwKs_10 i9 mt h2 hn
  | 11, h1 => cases h1; exact pwKs_11 i9 mt h2 hn
  | 12, h1 => cases h1; exact pwKs_12 i9 mt h2 hn
  | 13, h1 => cases h1; exact pwKs_13 i9 mt h2 hn
  | 14, h1 => cases h1; exact pwKs_14 i9 mt h2 hn
  | 15, h1 => cases h1; exact pwKs_15 i9 mt h2 hn
  | n9 + 16, h1 => cases h1
theorem pwFnd_mem {pc : Nat} {e9 : Instr × Nat × pwRP} : ∀ {l9 : List pwE}, pwFnd pc l9 = some e9 → (pc, e9) ∈ l9
  | [], h => by cases h
  | q :: qs, h => by
    unfold pwFnd at h
    cases hb : Nat.beq pc q.1 with
    | true =>
      rw [hb, cond_true] at h
      cases h
      rw [Nat.eq_of_beq_eq_true hb]
      exact List.mem_cons_self
    | false =>
      rw [hb, cond_false] at h
      exact List.mem_cons_of_mem _ (pwFnd_mem h)
theorem pwFnC_mem {pc : Nat} {e9 : Instr × Nat × pwRP} : ∀ {l9 : List (Nat × List pwE)}, pwFnC pc l9 = some e9 → ∃ c9 ∈ l9, (pc, e9) ∈ c9.2
  | [], h => by cases h
  | q :: qs, h => by
    unfold pwFnC at h
    cases hb : Nat.blt pc q.1 with
    | true =>
      rw [hb, cond_true] at h
      exact ⟨q, List.mem_cons_self, pwFnd_mem h⟩
    | false =>
      rw [hb, cond_false] at h
      obtain ⟨c9, h1, h2⟩ := pwFnC_mem h
      exact ⟨c9, List.mem_cons_of_mem _ h1, h2⟩
theorem pwCod_ok {mi pc : Nat} {mt : pwMT} {e9 : Instr × Nat × pwRP} (h : pwMeth mi = some mt) (hc : pwCod mi pc = some e9) : decode mt.1.2.2 pc = .ok (e9.1, e9.2.1) ∧ pwChkL mt pc e9.1 e9.2.1 e9.2.2 = true ∧ pwChkX (pc, e9) = true := by
  unfold pwCod at hc
  rw [h, Option.bind_some] at hc
  obtain ⟨c9, h1, h2⟩ := pwFnC_mem hc
  have h3 := List.all_eq_true.mp (List.all_eq_true.mp (pwAllC h) c9 h1) _ h2
  have h4 := List.all_eq_true.mp (List.all_eq_true.mp (pwAllY h) c9 h1) _ h2
  simp only [pwChkE, Bool.and_eq_true, decide_eq_true_eq] at h3
  exact ⟨h3.1, h3.2, h4⟩
-- the locals at a body's start
theorem pwMkl_len : ∀ As : List Value, (pwMkl As).length = (lg_sl As).length
  | [] => rfl
  | v :: vs => by
    have ih := pwMkl_len vs
    cases v <;> simp_all [pwMkl, lg_sl, List.flatMap_cons, Value.category]
theorem pwMkl_at : ∀ (As : List Value) (k i : Nat) (v : Value), (pwMkl As)[i]? = some (some v) → (k + i, v) ∈ lv_args k As
  | [], _, _, _, h => by cases h
  | u :: us, k, i, v, h => by
    have one : ∀ (hu : pwMkl (u :: us) = some u :: pwMkl us) (hc : u.category = 1), (k + i, v) ∈ lv_args k (u :: us) := by
      intro hu hc
      rw [hu] at h
      unfold lv_args
      rw [if_neg (by rw [hc]; decide)]
      cases i with
      | zero => cases h; exact List.mem_cons_self
      | succ i =>
        rw [List.getElem?_cons_succ] at h
        have := pwMkl_at us (k + 1) i v h
        rw [show k + (i + 1) = k + 1 + i by omega]
        exact List.mem_cons_of_mem _ this
    have two : ∀ (hu : pwMkl (u :: us) = some u :: none :: pwMkl us) (hc : u.category = 2), (k + i, v) ∈ lv_args k (u :: us) := by
      intro hu hc
      rw [hu] at h
      unfold lv_args
      rw [if_pos hc]
      match i, h with
      | 0, h => cases h; exact List.mem_cons_self
      | 1, h => cases h
      | i + 2, h =>
        have h : (pwMkl us)[i]? = some (some v) := h
        have := pwMkl_at us (k + 2) i v h
        rw [show k + (i + 2) = k + 2 + i by omega]
        exact List.mem_cons_of_mem _ this
    cases u with
    | long x9 => exact two rfl rfl
    | double x9 => exact two rfl rfl
    | int x9 => exact one rfl rfl
    | float x9 => exact one rfl rfl
    | null => exact one rfl rfl
    | ref x9 => exact one rfl rfl
    | retAddr x9 => exact one rfl rfl
theorem pwLV_entry {As : List Value} {nL : Nat} (h : (pwMkl As).length ≤ nL) : pwLV ((lg_sl As ++ List.replicate (nL - (lg_sl As).length) Slot.unset).toArray) nL (pwPad nL (pwMkl As)) := by
  have hl := pwMkl_len As
  refine pwLV.of (lv_entry As (by omega)) ?_ (fun i v hv => ?_)
  · simp only [pwPad, List.length_append, List.length_replicate]
    omega
  · unfold pwPad at hv
    by_cases hi : i < (pwMkl As).length
    · rw [List.getElem?_append_left hi] at hv
      have := pwMkl_at As 0 i v hv
      rwa [Nat.zero_add] at this
    · rw [List.getElem?_append_right (by omega)] at hv
      have := List.mem_of_getElem? hv
      rw [List.mem_replicate] at this
      cases this.2
