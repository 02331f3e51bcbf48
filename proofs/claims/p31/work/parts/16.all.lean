/-! the tables as a whole -/
def pwKind : List Nat := [2, 1, 1, 1, 1, 2, 1, 1, 1, 1, 0, 0, 0, 2, 2, 0, 0, 1, 1, 1, 1, 1, 1, 1, 1, 1, 1, 1, 1, 1, 1, 1, 1, 1, 2, 0, 0, 0, 1, 1, 1, 1, 1, 1, 1, 1, 1, 1, 1, 1, 1, 1, 1, 1, 1, 1, 1, 1, 1, 1, 1, 1, 1, 1, 1, 1, 1, 1, 1, 1, 1, 1, 1, 1, 1, 1, 1, 1, 1, 1, 1, 1, 1, 2, 1, 1, 1, 1, 1, 1, 1, 1, 0, 1, 1, 2, 1, 1, 1, 1, 1, 1, 1, 1, 1, 1, 1, 1, 1, 1, 1, 1, 1, 1, 1, 1, 1, 1, 1, 1, 1, 1, 1, 1, 1, 1, 0, 0, 0, 0, 0, 0, 0, 0, 0, 0, 0, 0, 0, 0, 0, 0, 0, 0, 0, 0, 0, 0, 0, 0, 0, 0, 0, 0, 0, 0, 0, 0, 0, 0, 0, 0, 0, 9]
def pwKd (i k : Nat) : Bool := decide (pwKind[i]? = some k)
def pwChkX (e : pwE) : Bool := match e.2.1 with
  | .invokestatic _ => Nat.ble 1000 e.2.2.2.1 || (pwKd e.2.2.2.1 0 && (match pwMeth e.2.2.2.1 with
    | some mc => mc.2.2.2.1.isEmpty || Nat.beq e.2.2.2.2.1 0
    | none => false))
  | .invokevirtual _ => pwKd e.2.2.2.1 1 && (match pwMeth e.2.2.2.1 with
    | some mc => mc.2.2.2.1.isEmpty
    | none => false)
  | .invokespecial _ => Nat.ble 1000 e.2.2.2.1 || (pwKd e.2.2.2.1 2 && (match pwMeth e.2.2.2.1 with
    | some mc => mc.2.2.2.1.isEmpty && decide (mc.2.1.2.1 = none)
    | none => false))
  | _ => true
def pwChkY (mt : pwMT) : Bool := mt.2.2.2.2.all fun c => c.2.all pwChkX
theorem pwYs_0 : pwMs_0.all pwChkY = true := by decide +kernel
theorem pwCs_0 : ∀ mt ∈ pwMs_0, pwChkC mt = true := by
  simp only [pwMs_0, List.forall_mem_cons]
  exact ⟨pwFc_X0_init, pwFc_X0_forgetAll, pwFc_X0_remember, pwFc_X0_takeBack, pwFc_X0_stateAt, pwFc_X1_init, pwFc_X1_numberOf, pwFc_X1_longestRise, pwFc_X1_rightLetters, pwFc_X1_mendingExchanges, pwFc_X2_groupFromEnd, pwFc_X2_succeeds, pwFc_X2_hasZerosInPlace, pwFc_X3_init, pwFc_X4_init, pwFc_X4_isStreet, fun _ h => nomatch h⟩
theorem pwYs_1 : pwMs_1.all pwChkY = true := by decide +kernel
theorem pwCs_1 : ∀ mt ∈ pwMs_1, pwChkC mt = true := by
  simp only [pwMs_1, List.forall_mem_cons]
  exact ⟨pwFc_X4_isShift, pwFc_X4_exists, pwFc_X4_isFull, pwFc_X4_removeAll, pwFc_X4_become, pwFc_X4_addStreet, pwFc_X4_cellsOf, pwFc_X4_greenOf, pwFc_X4_redOf, pwFc_X4_shiftOf, pwFc_X4_widthOf, pwFc_X4_changeShift, pwFc_X4_isGreen, pwFc_X4_noteReader, pwFc_X4_forgetReaders, pwFc_X4_readCountOf, fun _ h => nomatch h⟩
theorem pwYs_2 : pwMs_2.all pwChkY = true := by decide +kernel
theorem pwCs_2 : ∀ mt ∈ pwMs_2, pwChkC mt = true := by
  simp only [pwMs_2, List.forall_mem_cons]
  exact ⟨pwFc_X4_readAt, pwFc_X4_pairsReadFalling, pwFc_X5_init, pwFc_X5_isLetter, pwFc_X5_isSetting, pwFc_X5_isTicks, pwFc_X5_makeNew, pwFc_X5_become, pwFc_X5_hasWalker, pwFc_X5_hasPlace, pwFc_X5_isFull, pwFc_X5_mayGrow, pwFc_X5_walkerAt, pwFc_X5_letterOf, pwFc_X5_placeOf, pwFc_X5_standingOf, fun _ h => nomatch h⟩
theorem pwYs_3 : pwMs_3.all pwChkY = true := by decide +kernel
theorem pwCs_3 : ∀ mt ∈ pwMs_3, pwChkC mt = true := by
  simp only [pwMs_3, List.forall_mem_cons]
  exact ⟨pwFc_X5_hasCome, pwFc_X5_come, pwFc_X5_allHaveCome, pwFc_X5_countStanding, pwFc_X5_countOnStreet, pwFc_X5_walkerInCell, pwFc_X5_isInCell, pwFc_X5_wrongPairs, pwFc_X5_numberOfWalker, pwFc_X5_numberOfStreet, pwFc_X5_addWalker, pwFc_X5_changeLetter, pwFc_X5_swapWalkers, pwFc_X5_sendBack, pwFc_X5_changeSetting, pwFc_X5_triesWalker, fun _ h => nomatch h⟩
theorem pwYs_4 : pwMs_4.all pwChkY = true := by decide +kernel
theorem pwCs_4 : ∀ mt ∈ pwMs_4, pwChkC mt = true := by
  simp only [pwMs_4, List.forall_mem_cons]
  exact ⟨pwFc_X5_triesStreet, pwFc_X5_triesShift, pwFc_X5_triesExchange, pwFc_X5_triesSetting, pwFc_X5_triesTicks, pwFc_X5_ticksUntilAllIn, pwFc_X5_runWhileAnyoneWalks, pwFc_X5_tick, pwFc_X5_endOf, pwFc_X5_mayLeave, pwFc_X5_leave, pwFc_X5_leavingPlace, pwFc_X5_lowestPlace, pwFc_X5_bringForward, pwFc_X5_joinsCrowd, pwFc_X5_moveOn, fun _ h => nomatch h⟩
theorem pwYs_5 : pwMs_5.all pwChkY = true := by decide +kernel
theorem pwCs_5 : ∀ mt ∈ pwMs_5, pwChkC mt = true := by
  simp only [pwMs_5, List.forall_mem_cons]
  exact ⟨pwFc_X5_mix, pwFc_X5_swapPlaces, pwFc_X5_stand, pwFc_X6_init, pwFc_X6_isFull, pwFc_X6_addSign, pwFc_X6_emptied, pwFc_X6_firstError, pwFc_X6_beginReading, pwFc_X6_endsCommand, pwFc_X6_takes, pwFc_X6_takesLetter, pwFc_X6_rangesOf, pwFc_X6_takesNumberSign, pwFc_X6_carriesOut, pwFc_X7_init, fun _ h => nomatch h⟩
theorem pwYs_6 : pwMs_6.all pwChkY = true := by decide +kernel
theorem pwCs_6 : ∀ mt ∈ pwMs_6, pwChkC mt = true := by
  simp only [pwMs_6, List.forall_mem_cons]
  exact ⟨pwFc_X7_append, pwFc_X7_clearText, pwFc_X7_errorPosition, pwFc_X7_load, pwFc_X7_about, pwFc_X7_walkerOf, pwFc_X7_streetOf, pwFc_X7_cell, pwFc_X7_file, pwFc_X7_read, pwFc_X7_walker, pwFc_X7_street, pwFc_X7_shift, pwFc_X7_letter, pwFc_X7_exchange, pwFc_X7_back, fun _ h => nomatch h⟩
theorem pwYs_7 : pwMs_7.all pwChkY = true := by decide +kernel
theorem pwCs_7 : ∀ mt ∈ pwMs_7, pwChkC mt = true := by
  simp only [pwMs_7, List.forall_mem_cons]
  exact ⟨pwFc_X7_set, pwFc_X7_ticks, pwFc_X7_undo, pwFc_X7_allIn, pwFc_X7_later, pwFc_X7_bestRule, pwFc_X7_bestShift, pwFc_X7_bestExchange, pwFc_X7_gainOnTrial, pwFc_X7_runScript, pwFc_X7_simulate, pwFc_X7_takeTurn, pwFc_X7_save, pwFc_X7_restore, pwFc_X7_at, pwFc_X7_put, fun _ h => nomatch h⟩
theorem pwYs_8 : pwMs_8.all pwChkY = true := by decide +kernel
theorem pwCs_8 : ∀ mt ∈ pwMs_8, pwChkC mt = true := by
  simp only [pwMs_8, List.forall_mem_cons]
  exact ⟨pwFc_X7_copyRow, pwFc_X7_pairsFalling, pwFc_L_draw, pwFc_L_in, pwFc_L_append, pwFc_L_load, pwFc_L_about, pwFc_L_walkerOf, pwFc_L_streetOf, pwFc_L_cell, pwFc_L_file, pwFc_L_read, pwFc_L_walker, pwFc_L_street, pwFc_L_shift, pwFc_L_letter, fun _ h => nomatch h⟩
theorem pwYs_9 : pwMs_9.all pwChkY = true := by decide +kernel
theorem pwCs_9 : ∀ mt ∈ pwMs_9, pwChkC mt = true := by
  simp only [pwMs_9, List.forall_mem_cons]
  exact ⟨pwFc_L_exchange, pwFc_L_set, pwFc_L_ticks, pwFc_L_undo, pwFc_L_later, pwFc_L_bestShift, pwFc_L_bestExchange, pwFc_L_script, pwFc_L_simulate, pwFc_L_save, pwFc_L_restore, pwFc_L_now, pwFc_L_errors, pwFc_L_kept, pwFc_L_follows, pwFc_L_alike, fun _ h => nomatch h⟩
theorem pwYs_10 : pwMs_10.all pwChkY = true := by decide +kernel
theorem pwCs_10 : ∀ mt ∈ pwMs_10, pwChkC mt = true := by
  simp only [pwMs_10, List.forall_mem_cons]
  exact ⟨pwFc_L_says, pwFc_L_told, pwFc_L_act, pwFc_L_law, fun _ h => nomatch h⟩
theorem pwKs_0 : ∀ i mt, pwMs_0[i]? = some mt → 0 + i ≠ 163 → ∃ q, pwChkM mt q = true ∧ pwKind[0 + i]? = some q.1
  | 0, _, h, _ => by cases h; exact ⟨_, pwFm_X0_init, rfl⟩
  | 1, _, h, _ => by cases h; exact ⟨_, pwFm_X0_forgetAll, rfl⟩
  | 2, _, h, _ => by cases h; exact ⟨_, pwFm_X0_remember, rfl⟩
  | 3, _, h, _ => by cases h; exact ⟨_, pwFm_X0_takeBack, rfl⟩
  | 4, _, h, _ => by cases h; exact ⟨_, pwFm_X0_stateAt, rfl⟩
  | 5, _, h, _ => by cases h; exact ⟨_, pwFm_X1_init, rfl⟩
  | 6, _, h, _ => by cases h; exact ⟨_, pwFm_X1_numberOf, rfl⟩
  | 7, _, h, _ => by cases h; exact ⟨_, pwFm_X1_longestRise, rfl⟩
  | 8, _, h, _ => by cases h; exact ⟨_, pwFm_X1_rightLetters, rfl⟩
  | 9, _, h, _ => by cases h; exact ⟨_, pwFm_X1_mendingExchanges, rfl⟩
  | 10, _, h, _ => by cases h; exact ⟨_, pwFm_X2_groupFromEnd, rfl⟩
  | 11, _, h, _ => by cases h; exact ⟨_, pwFm_X2_succeeds, rfl⟩
  | 12, _, h, _ => by cases h; exact ⟨_, pwFm_X2_hasZerosInPlace, rfl⟩
  | 13, _, h, _ => by cases h; exact ⟨_, pwFm_X3_init, rfl⟩
  | 14, _, h, _ => by cases h; exact ⟨_, pwFm_X4_init, rfl⟩
  | 15, _, h, _ => by cases h; exact ⟨_, pwFm_X4_isStreet, rfl⟩
  | n9 + 16, _, h, _ => by cases h
theorem pwKs_1 : ∀ i mt, pwMs_1[i]? = some mt → 16 + i ≠ 163 → ∃ q, pwChkM mt q = true ∧ pwKind[16 + i]? = some q.1
  | 0, _, h, _ => by cases h; exact ⟨_, pwFm_X4_isShift, rfl⟩
  | 1, _, h, _ => by cases h; exact ⟨_, pwFm_X4_exists, rfl⟩
  | 2, _, h, _ => by cases h; exact ⟨_, pwFm_X4_isFull, rfl⟩
  | 3, _, h, _ => by cases h; exact ⟨_, pwFm_X4_removeAll, rfl⟩
  | 4, _, h, _ => by cases h; exact ⟨_, pwFm_X4_become, rfl⟩
  | 5, _, h, _ => by cases h; exact ⟨_, pwFm_X4_addStreet, rfl⟩
  | 6, _, h, _ => by cases h; exact ⟨_, pwFm_X4_cellsOf, rfl⟩
  | 7, _, h, _ => by cases h; exact ⟨_, pwFm_X4_greenOf, rfl⟩
  | 8, _, h, _ => by cases h; exact ⟨_, pwFm_X4_redOf, rfl⟩
  | 9, _, h, _ => by cases h; exact ⟨_, pwFm_X4_shiftOf, rfl⟩
  | 10, _, h, _ => by cases h; exact ⟨_, pwFm_X4_widthOf, rfl⟩
  | 11, _, h, _ => by cases h; exact ⟨_, pwFm_X4_changeShift, rfl⟩
  | 12, _, h, _ => by cases h; exact ⟨_, pwFm_X4_isGreen, rfl⟩
  | 13, _, h, _ => by cases h; exact ⟨_, pwFm_X4_noteReader, rfl⟩
  | 14, _, h, _ => by cases h; exact ⟨_, pwFm_X4_forgetReaders, rfl⟩
  | 15, _, h, _ => by cases h; exact ⟨_, pwFm_X4_readCountOf, rfl⟩
  | n9 + 16, _, h, _ => by cases h
theorem pwKs_2 : ∀ i mt, pwMs_2[i]? = some mt → 32 + i ≠ 163 → ∃ q, pwChkM mt q = true ∧ pwKind[32 + i]? = some q.1
  | 0, _, h, _ => by cases h; exact ⟨_, pwFm_X4_readAt, rfl⟩
  | 1, _, h, _ => by cases h; exact ⟨_, pwFm_X4_pairsReadFalling, rfl⟩
  | 2, _, h, _ => by cases h; exact ⟨_, pwFm_X5_init, rfl⟩
  | 3, _, h, _ => by cases h; exact ⟨_, pwFm_X5_isLetter, rfl⟩
  | 4, _, h, _ => by cases h; exact ⟨_, pwFm_X5_isSetting, rfl⟩
  | 5, _, h, _ => by cases h; exact ⟨_, pwFm_X5_isTicks, rfl⟩
  | 6, _, h, _ => by cases h; exact ⟨_, pwFm_X5_makeNew, rfl⟩
  | 7, _, h, _ => by cases h; exact ⟨_, pwFm_X5_become, rfl⟩
  | 8, _, h, _ => by cases h; exact ⟨_, pwFm_X5_hasWalker, rfl⟩
  | 9, _, h, _ => by cases h; exact ⟨_, pwFm_X5_hasPlace, rfl⟩
  | 10, _, h, _ => by cases h; exact ⟨_, pwFm_X5_isFull, rfl⟩
  | 11, _, h, _ => by cases h; exact ⟨_, pwFm_X5_mayGrow, rfl⟩
  | 12, _, h, _ => by cases h; exact ⟨_, pwFm_X5_walkerAt, rfl⟩
  | 13, _, h, _ => by cases h; exact ⟨_, pwFm_X5_letterOf, rfl⟩
  | 14, _, h, _ => by cases h; exact ⟨_, pwFm_X5_placeOf, rfl⟩
  | 15, _, h, _ => by cases h; exact ⟨_, pwFm_X5_standingOf, rfl⟩
  | n9 + 16, _, h, _ => by cases h
theorem pwKs_3 : ∀ i mt, pwMs_3[i]? = some mt → 48 + i ≠ 163 → ∃ q, pwChkM mt q = true ∧ pwKind[48 + i]? = some q.1
  | 0, _, h, _ => by cases h; exact ⟨_, pwFm_X5_hasCome, rfl⟩
  | 1, _, h, _ => by cases h; exact ⟨_, pwFm_X5_come, rfl⟩
  | 2, _, h, _ => by cases h; exact ⟨_, pwFm_X5_allHaveCome, rfl⟩
  | 3, _, h, _ => by cases h; exact ⟨_, pwFm_X5_countStanding, rfl⟩
  | 4, _, h, _ => by cases h; exact ⟨_, pwFm_X5_countOnStreet, rfl⟩
  | 5, _, h, _ => by cases h; exact ⟨_, pwFm_X5_walkerInCell, rfl⟩
  | 6, _, h, _ => by cases h; exact ⟨_, pwFm_X5_isInCell, rfl⟩
  | 7, _, h, _ => by cases h; exact ⟨_, pwFm_X5_wrongPairs, rfl⟩
  | 8, _, h, _ => by cases h; exact ⟨_, pwFm_X5_numberOfWalker, rfl⟩
  | 9, _, h, _ => by cases h; exact ⟨_, pwFm_X5_numberOfStreet, rfl⟩
  | 10, _, h, _ => by cases h; exact ⟨_, pwFm_X5_addWalker, rfl⟩
  | 11, _, h, _ => by cases h; exact ⟨_, pwFm_X5_changeLetter, rfl⟩
  | 12, _, h, _ => by cases h; exact ⟨_, pwFm_X5_swapWalkers, rfl⟩
  | 13, _, h, _ => by cases h; exact ⟨_, pwFm_X5_sendBack, rfl⟩
  | 14, _, h, _ => by cases h; exact ⟨_, pwFm_X5_changeSetting, rfl⟩
  | 15, _, h, _ => by cases h; exact ⟨_, pwFm_X5_triesWalker, rfl⟩
  | n9 + 16, _, h, _ => by cases h
theorem pwKs_4 : ∀ i mt, pwMs_4[i]? = some mt → 64 + i ≠ 163 → ∃ q, pwChkM mt q = true ∧ pwKind[64 + i]? = some q.1
  | 0, _, h, _ => by cases h; exact ⟨_, pwFm_X5_triesStreet, rfl⟩
  | 1, _, h, _ => by cases h; exact ⟨_, pwFm_X5_triesShift, rfl⟩
  | 2, _, h, _ => by cases h; exact ⟨_, pwFm_X5_triesExchange, rfl⟩
  | 3, _, h, _ => by cases h; exact ⟨_, pwFm_X5_triesSetting, rfl⟩
  | 4, _, h, _ => by cases h; exact ⟨_, pwFm_X5_triesTicks, rfl⟩
  | 5, _, h, _ => by cases h; exact ⟨_, pwFm_X5_ticksUntilAllIn, rfl⟩
  | 6, _, h, _ => by cases h; exact ⟨_, pwFm_X5_runWhileAnyoneWalks, rfl⟩
  | 7, _, h, _ => by cases h; exact ⟨_, pwFm_X5_tick, rfl⟩
  | 8, _, h, _ => by cases h; exact ⟨_, pwFm_X5_endOf, rfl⟩
  | 9, _, h, _ => by cases h; exact ⟨_, pwFm_X5_mayLeave, rfl⟩
  | 10, _, h, _ => by cases h; exact ⟨_, pwFm_X5_leave, rfl⟩
  | 11, _, h, _ => by cases h; exact ⟨_, pwFm_X5_leavingPlace, rfl⟩
  | 12, _, h, _ => by cases h; exact ⟨_, pwFm_X5_lowestPlace, rfl⟩
  | 13, _, h, _ => by cases h; exact ⟨_, pwFm_X5_bringForward, rfl⟩
  | 14, _, h, _ => by cases h; exact ⟨_, pwFm_X5_joinsCrowd, rfl⟩
  | 15, _, h, _ => by cases h; exact ⟨_, pwFm_X5_moveOn, rfl⟩
  | n9 + 16, _, h, _ => by cases h
theorem pwKs_5 : ∀ i mt, pwMs_5[i]? = some mt → 80 + i ≠ 163 → ∃ q, pwChkM mt q = true ∧ pwKind[80 + i]? = some q.1
  | 0, _, h, _ => by cases h; exact ⟨_, pwFm_X5_mix, rfl⟩
  | 1, _, h, _ => by cases h; exact ⟨_, pwFm_X5_swapPlaces, rfl⟩
  | 2, _, h, _ => by cases h; exact ⟨_, pwFm_X5_stand, rfl⟩
  | 3, _, h, _ => by cases h; exact ⟨_, pwFm_X6_init, rfl⟩
  | 4, _, h, _ => by cases h; exact ⟨_, pwFm_X6_isFull, rfl⟩
  | 5, _, h, _ => by cases h; exact ⟨_, pwFm_X6_addSign, rfl⟩
  | 6, _, h, _ => by cases h; exact ⟨_, pwFm_X6_emptied, rfl⟩
  | 7, _, h, _ => by cases h; exact ⟨_, pwFm_X6_firstError, rfl⟩
  | 8, _, h, _ => by cases h; exact ⟨_, pwFm_X6_beginReading, rfl⟩
  | 9, _, h, _ => by cases h; exact ⟨_, pwFm_X6_endsCommand, rfl⟩
  | 10, _, h, _ => by cases h; exact ⟨_, pwFm_X6_takes, rfl⟩
  | 11, _, h, _ => by cases h; exact ⟨_, pwFm_X6_takesLetter, rfl⟩
  | 12, _, h, _ => by cases h; exact ⟨_, pwFm_X6_rangesOf, rfl⟩
  | 13, _, h, _ => by cases h; exact ⟨_, pwFm_X6_takesNumberSign, rfl⟩
  | 14, _, h, _ => by cases h; exact ⟨_, pwFm_X6_carriesOut, rfl⟩
  | 15, _, h, _ => by cases h; exact ⟨_, pwFm_X7_init, rfl⟩
  | n9 + 16, _, h, _ => by cases h
theorem pwKs_6 : ∀ i mt, pwMs_6[i]? = some mt → 96 + i ≠ 163 → ∃ q, pwChkM mt q = true ∧ pwKind[96 + i]? = some q.1
  | 0, _, h, _ => by cases h; exact ⟨_, pwFm_X7_append, rfl⟩
  | 1, _, h, _ => by cases h; exact ⟨_, pwFm_X7_clearText, rfl⟩
  | 2, _, h, _ => by cases h; exact ⟨_, pwFm_X7_errorPosition, rfl⟩
  | 3, _, h, _ => by cases h; exact ⟨_, pwFm_X7_load, rfl⟩
  | 4, _, h, _ => by cases h; exact ⟨_, pwFm_X7_about, rfl⟩
  | 5, _, h, _ => by cases h; exact ⟨_, pwFm_X7_walkerOf, rfl⟩
  | 6, _, h, _ => by cases h; exact ⟨_, pwFm_X7_streetOf, rfl⟩
  | 7, _, h, _ => by cases h; exact ⟨_, pwFm_X7_cell, rfl⟩
  | 8, _, h, _ => by cases h; exact ⟨_, pwFm_X7_file, rfl⟩
  | 9, _, h, _ => by cases h; exact ⟨_, pwFm_X7_read, rfl⟩
  | 10, _, h, _ => by cases h; exact ⟨_, pwFm_X7_walker, rfl⟩
  | 11, _, h, _ => by cases h; exact ⟨_, pwFm_X7_street, rfl⟩
  | 12, _, h, _ => by cases h; exact ⟨_, pwFm_X7_shift, rfl⟩
  | 13, _, h, _ => by cases h; exact ⟨_, pwFm_X7_letter, rfl⟩
  | 14, _, h, _ => by cases h; exact ⟨_, pwFm_X7_exchange, rfl⟩
  | 15, _, h, _ => by cases h; exact ⟨_, pwFm_X7_back, rfl⟩
  | n9 + 16, _, h, _ => by cases h
theorem pwKs_7 : ∀ i mt, pwMs_7[i]? = some mt → 112 + i ≠ 163 → ∃ q, pwChkM mt q = true ∧ pwKind[112 + i]? = some q.1
  | 0, _, h, _ => by cases h; exact ⟨_, pwFm_X7_set, rfl⟩
  | 1, _, h, _ => by cases h; exact ⟨_, pwFm_X7_ticks, rfl⟩
  | 2, _, h, _ => by cases h; exact ⟨_, pwFm_X7_undo, rfl⟩
  | 3, _, h, _ => by cases h; exact ⟨_, pwFm_X7_allIn, rfl⟩
  | 4, _, h, _ => by cases h; exact ⟨_, pwFm_X7_later, rfl⟩
  | 5, _, h, _ => by cases h; exact ⟨_, pwFm_X7_bestRule, rfl⟩
  | 6, _, h, _ => by cases h; exact ⟨_, pwFm_X7_bestShift, rfl⟩
  | 7, _, h, _ => by cases h; exact ⟨_, pwFm_X7_bestExchange, rfl⟩
  | 8, _, h, _ => by cases h; exact ⟨_, pwFm_X7_gainOnTrial, rfl⟩
  | 9, _, h, _ => by cases h; exact ⟨_, pwFm_X7_runScript, rfl⟩
  | 10, _, h, _ => by cases h; exact ⟨_, pwFm_X7_simulate, rfl⟩
  | 11, _, h, _ => by cases h; exact ⟨_, pwFm_X7_takeTurn, rfl⟩
  | 12, _, h, _ => by cases h; exact ⟨_, pwFm_X7_save, rfl⟩
  | 13, _, h, _ => by cases h; exact ⟨_, pwFm_X7_restore, rfl⟩
  | 14, _, h, _ => by cases h; exact ⟨_, pwFm_X7_at, rfl⟩
  | 15, _, h, _ => by cases h; exact ⟨_, pwFm_X7_put, rfl⟩
  | n9 + 16, _, h, _ => by cases h
theorem pwKs_8 : ∀ i mt, pwMs_8[i]? = some mt → 128 + i ≠ 163 → ∃ q, pwChkM mt q = true ∧ pwKind[128 + i]? = some q.1
  | 0, _, h, _ => by cases h; exact ⟨_, pwFm_X7_copyRow, rfl⟩
  | 1, _, h, _ => by cases h; exact ⟨_, pwFm_X7_pairsFalling, rfl⟩
  | 2, _, h, _ => by cases h; exact ⟨_, pwFm_L_draw, rfl⟩
  | 3, _, h, _ => by cases h; exact ⟨_, pwFm_L_in, rfl⟩
  | 4, _, h, _ => by cases h; exact ⟨_, pwFm_L_append, rfl⟩
  | 5, _, h, _ => by cases h; exact ⟨_, pwFm_L_load, rfl⟩
  | 6, _, h, _ => by cases h; exact ⟨_, pwFm_L_about, rfl⟩
  | 7, _, h, _ => by cases h; exact ⟨_, pwFm_L_walkerOf, rfl⟩
  | 8, _, h, _ => by cases h; exact ⟨_, pwFm_L_streetOf, rfl⟩
  | 9, _, h, _ => by cases h; exact ⟨_, pwFm_L_cell, rfl⟩
  | 10, _, h, _ => by cases h; exact ⟨_, pwFm_L_file, rfl⟩
  | 11, _, h, _ => by cases h; exact ⟨_, pwFm_L_read, rfl⟩
  | 12, _, h, _ => by cases h; exact ⟨_, pwFm_L_walker, rfl⟩
  | 13, _, h, _ => by cases h; exact ⟨_, pwFm_L_street, rfl⟩
  | 14, _, h, _ => by cases h; exact ⟨_, pwFm_L_shift, rfl⟩
  | 15, _, h, _ => by cases h; exact ⟨_, pwFm_L_letter, rfl⟩
  | n9 + 16, _, h, _ => by cases h
theorem pwKs_9 : ∀ i mt, pwMs_9[i]? = some mt → 144 + i ≠ 163 → ∃ q, pwChkM mt q = true ∧ pwKind[144 + i]? = some q.1
  | 0, _, h, _ => by cases h; exact ⟨_, pwFm_L_exchange, rfl⟩
  | 1, _, h, _ => by cases h; exact ⟨_, pwFm_L_set, rfl⟩
  | 2, _, h, _ => by cases h; exact ⟨_, pwFm_L_ticks, rfl⟩
  | 3, _, h, _ => by cases h; exact ⟨_, pwFm_L_undo, rfl⟩
  | 4, _, h, _ => by cases h; exact ⟨_, pwFm_L_later, rfl⟩
  | 5, _, h, _ => by cases h; exact ⟨_, pwFm_L_bestShift, rfl⟩
  | 6, _, h, _ => by cases h; exact ⟨_, pwFm_L_bestExchange, rfl⟩
  | 7, _, h, _ => by cases h; exact ⟨_, pwFm_L_script, rfl⟩
  | 8, _, h, _ => by cases h; exact ⟨_, pwFm_L_simulate, rfl⟩
  | 9, _, h, _ => by cases h; exact ⟨_, pwFm_L_save, rfl⟩
  | 10, _, h, _ => by cases h; exact ⟨_, pwFm_L_restore, rfl⟩
  | 11, _, h, _ => by cases h; exact ⟨_, pwFm_L_now, rfl⟩
  | 12, _, h, _ => by cases h; exact ⟨_, pwFm_L_errors, rfl⟩
  | 13, _, h, _ => by cases h; exact ⟨_, pwFm_L_kept, rfl⟩
  | 14, _, h, _ => by cases h; exact ⟨_, pwFm_L_follows, rfl⟩
  | 15, _, h, _ => by cases h; exact ⟨_, pwFm_L_alike, rfl⟩
  | n9 + 16, _, h, _ => by cases h
theorem pwKs_10 : ∀ i mt, pwMs_10[i]? = some mt → 160 + i ≠ 163 → ∃ q, pwChkM mt q = true ∧ pwKind[160 + i]? = some q.1
  | 0, _, h, _ => by cases h; exact ⟨_, pwFm_L_says, rfl⟩
  | 1, _, h, _ => by cases h; exact ⟨_, pwFm_L_told, rfl⟩
  | 2, _, h, _ => by cases h; exact ⟨_, pwFm_L_act, rfl⟩
  | 3, _, h, hn => absurd rfl hn
  | n9 + 4, _, h, _ => by cases h
theorem pwMeth_at {mi : Nat} {mt : pwMT} (h : pwMeth mi = some mt) : ∃ l9, pwMs[mi / 16]? = some l9 ∧ l9[mi % 16]? = some mt := by
  obtain ⟨l9, h1, h2⟩ := Option.bind_eq_some_iff.mp h
  exact ⟨l9, h1, h2⟩
theorem pwAllC {mi : Nat} {mt : pwMT} (h : pwMeth mi = some mt) : pwChkC mt = true := by
  obtain ⟨l9, h1, h2⟩ := pwMeth_at h
  have hm : mt ∈ l9 := List.mem_of_getElem? h2
  generalize mi / 16 = j9 at h1
  match j9, h1 with
  | 0, h1 => cases h1; exact pwCs_0 _ hm
  | 1, h1 => cases h1; exact pwCs_1 _ hm
  | 2, h1 => cases h1; exact pwCs_2 _ hm
  | 3, h1 => cases h1; exact pwCs_3 _ hm
  | 4, h1 => cases h1; exact pwCs_4 _ hm
  | 5, h1 => cases h1; exact pwCs_5 _ hm
  | 6, h1 => cases h1; exact pwCs_6 _ hm
  | 7, h1 => cases h1; exact pwCs_7 _ hm
  | 8, h1 => cases h1; exact pwCs_8 _ hm
  | 9, h1 => cases h1; exact pwCs_9 _ hm
  | 10, h1 => cases h1; exact pwCs_10 _ hm
  | n9 + 11, h1 => cases h1
theorem pwAllY {mi : Nat} {mt : pwMT} (h : pwMeth mi = some mt) : pwChkY mt = true := by
  obtain ⟨l9, h1, h2⟩ := pwMeth_at h
  have hm : mt ∈ l9 := List.mem_of_getElem? h2
  generalize mi / 16 = j9 at h1
  match j9, h1 with
  | 0, h1 => cases h1; exact List.all_eq_true.mp pwYs_0 _ hm
  | 1, h1 => cases h1; exact List.all_eq_true.mp pwYs_1 _ hm
  | 2, h1 => cases h1; exact List.all_eq_true.mp pwYs_2 _ hm
  | 3, h1 => cases h1; exact List.all_eq_true.mp pwYs_3 _ hm
  | 4, h1 => cases h1; exact List.all_eq_true.mp pwYs_4 _ hm
  | 5, h1 => cases h1; exact List.all_eq_true.mp pwYs_5 _ hm
  | 6, h1 => cases h1; exact List.all_eq_true.mp pwYs_6 _ hm
  | 7, h1 => cases h1; exact List.all_eq_true.mp pwYs_7 _ hm
  | 8, h1 => cases h1; exact List.all_eq_true.mp pwYs_8 _ hm
  | 9, h1 => cases h1; exact List.all_eq_true.mp pwYs_9 _ hm
  | 10, h1 => cases h1; exact List.all_eq_true.mp pwYs_10 _ hm
  | n9 + 11, h1 => cases h1
theorem pwAllM {mi : Nat} {mt : pwMT} (h : pwMeth mi = some mt) (hn : mi ≠ 163) : ∃ q, pwChkM mt q = true ∧ pwKind[mi]? = some q.1 := by
  obtain ⟨l9, h1, h2⟩ := pwMeth_at h
  have he : mi = 16 * (mi / 16) + mi % 16 := by omega
  generalize mi / 16 = j9 at h1 he
  generalize mi % 16 = i9 at h2 he
  subst he
  match j9, h1 with
  | 0, h1 => cases h1; exact pwKs_0 i9 mt h2 (by simpa using hn)
  | 1, h1 => cases h1; exact pwKs_1 i9 mt h2 hn
  | 2, h1 => cases h1; exact pwKs_2 i9 mt h2 hn
  | 3, h1 => cases h1; exact pwKs_3 i9 mt h2 hn
  | 4, h1 => cases h1; exact pwKs_4 i9 mt h2 hn
  | 5, h1 => cases h1; exact pwKs_5 i9 mt h2 hn
  | 6, h1 => cases h1; exact pwKs_6 i9 mt h2 hn
  | 7, h1 => cases h1; exact pwKs_7 i9 mt h2 hn
  | 8, h1 => cases h1; exact pwKs_8 i9 mt h2 hn
  | 9, h1 => cases h1; exact pwKs_9 i9 mt h2 hn
  | 10, h1 => cases h1; exact pwKs_10 i9 mt h2 hn
  | n9 + 11, h1 => cases h1
theorem pwFnd_mem {pc : Nat} {e9 : Instr × Nat × pwRP} : ∀ {l9 : List pwE}, pwFnd pc l9 = some e9 → (pc, e9) ∈ l9
  | [], h => by cases h
  | q :: qs, h => by
    unfold pwFnd at h
    cases hb : Nat.beq pc q.1 with
    | true =>
      rw [hb, cond_true] at h
      cases h
      rw [Nat.eq_of_beq_eq_true hb]
      exact List.mem_cons_self
    | false =>
      rw [hb, cond_false] at h
      exact List.mem_cons_of_mem _ (pwFnd_mem h)
theorem pwFnC_mem {pc : Nat} {e9 : Instr × Nat × pwRP} : ∀ {l9 : List (Nat × List pwE)}, pwFnC pc l9 = some e9 → ∃ c9 ∈ l9, (pc, e9) ∈ c9.2
  | [], h => by cases h
  | q :: qs, h => by
    unfold pwFnC at h
    cases hb : Nat.blt pc q.1 with
    | true =>
      rw [hb, cond_true] at h
      exact ⟨q, List.mem_cons_self, pwFnd_mem h⟩
    | false =>
      rw [hb, cond_false] at h
      obtain ⟨c9, h1, h2⟩ := pwFnC_mem h
      exact ⟨c9, List.mem_cons_of_mem _ h1, h2⟩
theorem pwCod_ok {mi pc : Nat} {mt : pwMT} {e9 : Instr × Nat × pwRP} (h : pwMeth mi = some mt) (hc : pwCod mi pc = some e9) : decode mt.1.2.2 pc = .ok (e9.1, e9.2.1) ∧ pwChkL mt pc e9.1 e9.2.1 e9.2.2 = true ∧ pwChkX (pc, e9) = true := by
  unfold pwCod at hc
  rw [h, Option.bind_some] at hc
  obtain ⟨c9, h1, h2⟩ := pwFnC_mem hc
  have h3 := List.all_eq_true.mp (List.all_eq_true.mp (pwAllC h) c9 h1) _ h2
  have h4 := List.all_eq_true.mp (List.all_eq_true.mp (pwAllY h) c9 h1) _ h2
  simp only [pwChkE, Bool.and_eq_true, decide_eq_true_eq] at h3
  exact ⟨h3.1, h3.2, h4⟩
-- the locals at a body's start
theorem pwMkl_len : ∀ As : List Value, (pwMkl As).length = (lg_sl As).length
  | [] => rfl
  | v :: vs => by
    have ih := pwMkl_len vs
    cases v <;> simp_all [pwMkl, lg_sl, List.flatMap_cons, Value.category]
theorem pwMkl_at : ∀ (As : List Value) (k i : Nat) (v : Value), (pwMkl As)[i]? = some (some v) → (k + i, v) ∈ lv_args k As
  | [], _, _, _, h => by cases h
  | u :: us, k, i, v, h => by
    have one : ∀ (hu : pwMkl (u :: us) = some u :: pwMkl us) (hc : u.category = 1), (k + i, v) ∈ lv_args k (u :: us) := by
      intro hu hc
      rw [hu] at h
      unfold lv_args
      rw [if_neg (by rw [hc]; decide)]
      cases i with
      | zero => cases h; exact List.mem_cons_self
      | succ i =>
        rw [List.getElem?_cons_succ] at h
        have := pwMkl_at us (k + 1) i v h
        rw [show k + (i + 1) = k + 1 + i by omega]
        exact List.mem_cons_of_mem _ this
    have two : ∀ (hu : pwMkl (u :: us) = some u :: none :: pwMkl us) (hc : u.category = 2), (k + i, v) ∈ lv_args k (u :: us) := by
      intro hu hc
      rw [hu] at h
      unfold lv_args
      rw [if_pos hc]
      match i, h with
      | 0, h => cases h; exact List.mem_cons_self
      | 1, h => cases h
      | i + 2, h =>
        have h : (pwMkl us)[i]? = some (some v) := h
        have := pwMkl_at us (k + 2) i v h
        rw [show k + (i + 2) = k + 2 + i by omega]
        exact List.mem_cons_of_mem _ this
    cases u with
    | long x9 => exact two rfl rfl
    | double x9 => exact two rfl rfl
    | int x9 => exact one rfl rfl
    | float x9 => exact one rfl rfl
    | null => exact one rfl rfl
    | ref x9 => exact one rfl rfl
    | retAddr x9 => exact one rfl rfl
theorem pwLV_entry {As : List Value} {nL : Nat} (h : (pwMkl As).length ≤ nL) : pwLV ((lg_sl As ++ List.replicate (nL - (lg_sl As).length) Slot.unset).toArray) nL (pwPad nL (pwMkl As)) := by
  have hl := pwMkl_len As
  refine pwLV.of (lv_entry As (by omega)) ?_ (fun i v hv => ?_)
  · simp only [pwPad, List.length_append, List.length_replicate]
    omega
  · unfold pwPad at hv
    by_cases hi : i < (pwMkl As).length
    · rw [List.getElem?_append_left hi] at hv
      have := pwMkl_at As 0 i v hv
      rwa [Nat.zero_add] at this
    · rw [List.getElem?_append_right (by omega)] at hv
      have := List.mem_of_getElem? hv
      rw [List.mem_replicate] at this
      cases this.2
