/-! what the tables' entries owe, decided by the kernel -/
def pwGw : List Jvm.Cond := lw_tbl.filter goodWord
def pwTk : List (List Jvm.Cond) := [tables_1_1, tables_1_2, tables_1_3, tables_1_4, tables_1_5, tables_1_6]
def pwTb (i : Nat) : Option Jvm.Cond := bif Nat.blt i 52 then (k2_sels lw_privs)[i]? else (pwTk[(i - 52) / 240]?).bind fun l => l[(i - 52) % 240]?
theorem pwTb_mem {i : Nat} {w : Jvm.Cond} (h : pwTb i = some w) : w ∈ lw_tbl := by
  unfold pwTb at h
  cases hb : Nat.blt i 52 with
  | true => rw [hb] at h; exact List.mem_append_left _ (List.mem_of_getElem? h)
  | false =>
    rw [hb] at h
    obtain ⟨l, hl, h1⟩ := Option.bind_eq_some_iff.mp h
    have hw := List.mem_of_getElem? h1
    refine List.mem_append_right _ ?_
    have hm : l ∈ pwTk := List.mem_of_getElem? hl
    simp only [pwTk, List.mem_cons, List.not_mem_nil, or_false] at hm
    show w ∈ tables_1_1 ++ (tables_1_2 ++ (tables_1_3 ++ (tables_1_4 ++ (tables_1_5 ++ tables_1_6))))
    simp only [List.mem_append]
    rcases hm with rfl | rfl | rfl | rfl | rfl | rfl
    · exact Or.inl hw
    · exact Or.inr (Or.inl hw)
    · exact Or.inr (Or.inr (Or.inl hw))
    · exact Or.inr (Or.inr (Or.inr (Or.inl hw)))
    · exact Or.inr (Or.inr (Or.inr (Or.inr (Or.inl hw))))
    · exact Or.inr (Or.inr (Or.inr (Or.inr (Or.inr hw))))
def pwIn0 (i : Nat) (w : Jvm.Cond) : Bool := decide (pwTb i = some w)
theorem pwIn0_mem {i : Nat} {w : Jvm.Cond} (h : pwIn0 i w = true) : w ∈ lw_tbl := pwTb_mem (of_decide_eq_true h)
def pwIn (i : Nat) (w : Jvm.Cond) : Bool := decide (pwTb i = some w) && goodWord w
theorem pwIn_mem {i : Nat} {w : Jvm.Cond} (h : pwIn i w = true) : w ∈ pwGw := by
  simp only [pwIn, Bool.and_eq_true, decide_eq_true_eq] at h
  exact List.mem_filter.mpr ⟨pwTb_mem h.1, h.2⟩
def pwLink (own : String) (i : Nat) (y : MethodName) (r : pwRP) : Bool := bif Nat.beq r.2.1 0 then pwIn (52 + r.2.2.1.toNat) (.methodLink own i y) else pwIn0 (52 + r.2.2.1.toNat) (.methodLinkNest own i y "PlacardWalkers")
def pwRoom (mt mc : pwMT) : Bool := Nat.ble (mc.2.2.1.1 + 1) mt.2.2.1.1 && Nat.ble (8 + (mc.2.1.1 + 11) + mc.2.2.1.2.1) mt.2.2.1.2.1
def pwExN : List Nat := [54, 65, 117]
def pwExR : List String := ["java/lang/RuntimeException", "java/lang/Exception"]
def pwChkL (mt : pwMT) (pc : Nat) (x : Instr) (len : Nat) (r : pwRP) : Bool := match x with
  | .getfield i => Nat.beq len 3 && (match pwCl[r.1]? with
    | some q => Nat.blt r.2.1 q.2.2 && pwIn (52 + r.2.2.1.toNat) (.fieldLink mt.1.1 i (q.2.1 r.2.1).1 (q.2.1 r.2.1).2.1 (q.2.1 r.2.1).2.2.1)
    | none => false)
  | .putfield i => Nat.beq len 3 && (match pwCl[r.1]? with
    | some q => Nat.blt r.2.1 q.2.2 && pwIn (52 + r.2.2.1.toNat) (.fieldLink mt.1.1 i (q.2.1 r.2.1).1 (q.2.1 r.2.1).2.1 (q.2.1 r.2.1).2.2.1) && (bif (q.2.1 r.2.1).2.2.2 then decide (mt.1.2.1.name = "<init>" ∧ (q.2.1 r.2.1).1 = mt.1.1) else true)
    | none => false)
  | .getstatic i => Nat.beq len 3 && (match pwSt[r.1]? with
    | some n => pwIn (52 + r.2.2.1.toNat) (.fieldLink mt.1.1 i pwR_X6 n "[I")
    | none => false)
  | .invokevirtual i => Nat.beq len 3 && (match pwMeth r.1 with
    | some mc => Nat.beq r.2.1 0 && pwLink mt.1.1 i mc.1.2.1 r && pwRoom mt mc
    | none => false)
  | .invokespecial i => Nat.beq len 3 && (bif Nat.beq r.1 1000 then pwIn (52 + r.2.2.1.toNat) (.methodLink mt.1.1 i objectInit) && Nat.ble 1 mt.2.2.1.1 && Nat.ble 20 mt.2.2.1.2.1 else (match pwMeth r.1 with
    | some mc => pwLink mt.1.1 i mc.1.2.1 r && pwRoom mt mc && decide (mc.1.2.1.name = "<init>")
    | none => bif Nat.beq r.1 1900 then true else false))
  | .invokestatic i => Nat.beq len 3 && (bif Nat.beq r.1 1001 then pwIn (52 + r.2.2.1.toNat) (.methodLink mt.1.1 i Lib.Math.min.name) && Nat.ble 1 mt.2.2.1.1 && Nat.ble 21 mt.2.2.1.2.1
    else bif Nat.beq r.1 1002 then pwIn (52 + r.2.2.1.toNat) (.methodLink mt.1.1 i Lib.Math.max.name) && Nat.ble 1 mt.2.2.1.1 && Nat.ble 21 mt.2.2.1.2.1
    else bif Nat.beq r.1 1003 then pwIn (52 + r.2.2.1.toNat) (.methodLink mt.1.1 i arraycopyName) && Nat.ble 1 mt.2.2.1.1 && Nat.ble (8 + (nativeFrameWords "java/lang/System" "arraycopy" 5 + 11)) mt.2.2.1.2.1
    else (match pwMeth r.1 with
    | some mc => pwLink mt.1.1 i mc.1.2.1 r && pwRoom mt mc
    | none => false))
  | .ldc i => bif Nat.beq r.2.1 0 then Nat.beq len 2 && pwIn (52 + r.1) (.constant mt.1.1 i (Int32.ofInt r.2.2.1)) else true
  | .ldc_w i => bif Nat.beq r.2.1 0 then Nat.beq len 3 && pwIn (52 + r.1) (.constant mt.1.1 i (Int32.ofInt r.2.2.1)) else true
  | .ldc2_w i => Nat.beq len 3 && pwIn (52 + r.1) (.constantLong mt.1.1 i (Int64.ofInt r.2.2.1))
  | .new i => Nat.beq len 3 && (bif Nat.ble 100 r.1 then (match pwEx[r.1 - 100]?, pwExN[r.1 - 100]?, r.2.2.2 with
      | some E, some ic, [(is, ps), (ic2, _)] => decide (mt.1.1 = pwR_X7 ∧ ic2 = Int32.ofNat ic ∧ mt.2.2.2.1 = []) && pwIn (52 + r.2.2.1.toNat) (.classLink mt.1.1 i E) && Nat.ble 6 mt.2.2.1.1 && Nat.ble 90 mt.2.2.1.2.1
          && (match pwTb (52 + ps) with
            | some (.stringRef o k _) => decide (o = mt.1.1 ∧ is = Int32.ofNat k ∧ decode mt.1.2.2 (pc + 3) = .ok (.dup, 1) ∧ ((decode mt.1.2.2 (pc + 4) = .ok (.ldc k, 2) ∧ decode mt.1.2.2 (pc + 6) = .ok (.invokespecial ic, 3) ∧ decode mt.1.2.2 (pc + 9) = .ok (.athrow, 1) ∧ r.2.1 = 0) ∨ (decode mt.1.2.2 (pc + 4) = .ok (.ldc_w k, 3) ∧ decode mt.1.2.2 (pc + 7) = .ok (.invokespecial ic, 3) ∧ decode mt.1.2.2 (pc + 10) = .ok (.athrow, 1) ∧ r.2.1 = 1)))
            | _ => false)
      | _, _, _ => false)
    else (match pwCl[r.1]? with
    | some q => pwIn (52 + r.2.2.1.toNat) (.classLink mt.1.1 i q.1)
    | none => false))
  | .anewarray i => Nat.beq len 3 && pwIn (52 + r.2.2.1.toNat) (.classLink mt.1.1 i pwR_X5)
  | .goto o => Nat.beq len 3 && decide ((pc : Int) + o = (r.1 : Int))
  | .ifCond _ o => Nat.beq len 3 && decide ((pc : Int) + o = (r.1 : Int))
  | .if_icmp _ o => Nat.beq len 3 && decide ((pc : Int) + o = (r.1 : Int))
  | .ifnull o => Nat.beq len 3 && decide ((pc : Int) + o = (r.1 : Int))
  | .ifnonnull o => Nat.beq len 3 && decide ((pc : Int) + o = (r.1 : Int))
  | .tableswitch d lo hi offs => decide ((pc : Int) + d = (r.1 : Int)) && decide (lo + (offs.size : Int) = hi + 1 ∧ -1000 ≤ lo ∧ hi ≤ 1000) && decide (r.2.2.2 = (List.range offs.size).map fun (j : Nat) => (Int32.ofInt (lo + (j : Int)), ((pc : Int) + offs.getD j 0).toNat)) && (List.range offs.size).all fun (j : Nat) => decide (0 ≤ (pc : Int) + offs.getD j 0)
  | .lookupswitch d ps => decide ((pc : Int) + d = (r.1 : Int)) && decide (r.2.2.2 = ps.toList.map fun q => (Int32.ofInt q.1, ((pc : Int) + q.2).toNat)) && ps.toList.all (fun q => decide (-1000 ≤ q.1 ∧ q.1 ≤ 1000 ∧ 0 ≤ (pc : Int) + q.2)) && (ps.toList.zip (ps.toList.drop 1)).all (fun (a, next) => a.1 < next.1)
  | .iload_n _ => Nat.beq len 1
  | .lload_n _ => Nat.beq len 1
  | .aload_n _ => Nat.beq len 1
  | .istore_n _ => Nat.beq len 1
  | .lstore_n _ => Nat.beq len 1
  | .astore_n _ => Nat.beq len 1
  | .iload _ => Nat.beq len 2
  | .lload _ => Nat.beq len 2
  | .aload _ => Nat.beq len 2
  | .istore _ => Nat.beq len 2
  | .lstore _ => Nat.beq len 2
  | .astore _ => Nat.beq len 2
  | .iinc _ _ => Nat.beq len 3
  | .bipush _ => Nat.beq len 2
  | .sipush _ => Nat.beq len 3
  | .newarray t => Nat.beq len 2 && (match t with
    | .int => true
    | .long => true
    | .boolean => true
    | _ => false)
  | _ => Nat.beq len 1
def pwChkE (mt : pwMT) (e : pwE) : Bool := decide (decode mt.1.2.2 e.1 = .ok (e.2.1, e.2.2.1)) && pwChkL mt e.1 e.2.1 e.2.2.1 e.2.2.2
def pwChkC (mt : pwMT) : Bool := mt.2.2.2.2.all fun c => c.2.all (pwChkE mt)
/-- what a callee's tables owe: kind (0 static, 1 virtual, 2 init) and places of its words -/
def pwChkM (mt : pwMT) (q : Nat × Nat × Nat × Nat × Nat) : Bool := plainName mt.1.2.1.cls && decide (mt.1.2.1.cls = mt.1.1 ∧ mt.1.1 ≠ "java/lang/invoke/MethodHandle" ∧ mt.1.1 ≠ "java/lang/invoke/VarHandle" ∧ (parseMethodDescriptor mt.1.2.1.desc).map (fun d => d.parameters.length) = some mt.2.1.2.2)
  && (match mt.2.2.2.1 with
    | [] => pwIn q.2.1 (.code mt.1.2.1 mt.1.2.2 mt.2.1.1 mt.2.1.2.1)
    | hh => pwIn q.2.1 (.codeWith mt.1.2.1 mt.1.2.2 mt.2.1.1 mt.2.1.2.1 hh)) && pwIn q.2.2.2.2 (.initialized mt.1.1)
  && (bif Nat.beq q.1 0 then pwIn q.2.2.1 (.static mt.1.2.1) else pwIn q.2.2.1 (.instanceMethod mt.1.2.1) && decide ((pwCl[mt.2.2.1.2.2]?).map (fun c => c.1) = some mt.1.1) && (bif Nat.beq q.1 1 then pwIn q.2.2.2.1 (.selects mt.1.1 mt.1.2.1 mt.1.2.1) else decide (mt.1.2.1.name = "<init>")))

theorem pwFm_X0_init : pwChkM pwM_X0_init (2, 207, 206, 0, 58) = true := by decide +kernel
theorem pwFm_X0_forgetAll : pwChkM pwM_X0_forgetAll (1, 588, 586, 587, 58) = true := by decide +kernel
theorem pwFm_X0_remember : pwChkM pwM_X0_remember (1, 325, 323, 324, 58) = true := by decide +kernel
theorem pwFm_X0_takeBack : pwChkM pwM_X0_takeBack (1, 924, 922, 923, 58) = true := by decide +kernel
theorem pwFm_X0_stateAt : pwChkM pwM_X0_stateAt (1, 329, 328, 3, 58) = true := by decide +kernel
theorem pwFm_X1_init : pwChkM pwM_X1_init (2, 197, 196, 0, 57) = true := by decide +kernel
theorem pwFm_X1_numberOf : pwChkM pwM_X1_numberOf (1, 696, 694, 695, 57) = true := by decide +kernel
theorem pwFm_X1_longestRise : pwChkM pwM_X1_longestRise (1, 703, 702, 17, 57) = true := by decide +kernel
theorem pwFm_X1_rightLetters : pwChkM pwM_X1_rightLetters (1, 716, 715, 18, 57) = true := by decide +kernel
theorem pwFm_X1_mendingExchanges : pwChkM pwM_X1_mendingExchanges (1, 724, 723, 19, 57) = true := by decide +kernel
theorem pwFm_X2_groupFromEnd : pwChkM pwM_X2_groupFromEnd (0, 961, 960, 0, 69) = true := by decide +kernel
theorem pwFm_X2_succeeds : pwChkM pwM_X2_succeeds (0, 967, 966, 0, 69) = true := by decide +kernel
theorem pwFm_X2_hasZerosInPlace : pwChkM pwM_X2_hasZerosInPlace (0, 970, 969, 0, 69) = true := by decide +kernel
theorem pwFm_X3_init : pwChkM pwM_X3_init (2, 227, 226, 0, 59) = true := by decide +kernel
theorem pwFm_X4_init : pwChkM pwM_X4_init (2, 118, 117, 0, 56) = true := by decide +kernel
theorem pwFm_X4_isStreet : pwChkM pwM_X4_isStreet (0, 619, 618, 0, 56) = true := by decide +kernel
theorem pwFm_X4_isShift : pwChkM pwM_X4_isShift (0, 642, 641, 0, 56) = true := by decide +kernel
theorem pwFm_X4_exists : pwChkM pwM_X4_exists (1, 639, 637, 638, 56) = true := by decide +kernel
theorem pwFm_X4_isFull : pwChkM pwM_X4_isFull (1, 627, 625, 626, 56) = true := by decide +kernel
theorem pwFm_X4_removeAll : pwChkM pwM_X4_removeAll (1, 584, 582, 583, 56) = true := by decide +kernel
theorem pwFm_X4_become : pwChkM pwM_X4_become (1, 337, 335, 336, 56) = true := by decide +kernel
theorem pwFm_X4_addStreet : pwChkM pwM_X4_addStreet (1, 631, 629, 630, 56) = true := by decide +kernel
theorem pwFm_X4_cellsOf : pwChkM pwM_X4_cellsOf (1, 439, 437, 438, 56) = true := by decide +kernel
theorem pwFm_X4_greenOf : pwChkM pwM_X4_greenOf (1, 772, 770, 771, 56) = true := by decide +kernel
theorem pwFm_X4_redOf : pwChkM pwM_X4_redOf (1, 776, 774, 775, 56) = true := by decide +kernel
theorem pwFm_X4_shiftOf : pwChkM pwM_X4_shiftOf (1, 780, 778, 779, 56) = true := by decide +kernel
theorem pwFm_X4_widthOf : pwChkM pwM_X4_widthOf (1, 435, 433, 434, 56) = true := by decide +kernel
theorem pwFm_X4_changeShift : pwChkM pwM_X4_changeShift (1, 646, 644, 645, 56) = true := by decide +kernel
theorem pwFm_X4_isGreen : pwChkM pwM_X4_isGreen (1, 400, 398, 399, 56) = true := by decide +kernel
theorem pwFm_X4_noteReader : pwChkM pwM_X4_noteReader (1, 427, 425, 426, 56) = true := by decide +kernel
theorem pwFm_X4_forgetReaders : pwChkM pwM_X4_forgetReaders (1, 366, 364, 365, 56) = true := by decide +kernel
theorem pwFm_X4_readCountOf : pwChkM pwM_X4_readCountOf (1, 788, 786, 787, 56) = true := by decide +kernel
theorem pwFm_X4_readAt : pwChkM pwM_X4_readAt (1, 831, 829, 830, 56) = true := by decide +kernel
theorem pwFm_X4_pairsReadFalling : pwChkM pwM_X4_pairsReadFalling (1, 792, 790, 791, 56) = true := by decide +kernel
theorem pwFm_X5_init : pwChkM pwM_X5_init (2, 112, 111, 0, 55) = true := by decide +kernel
theorem pwFm_X5_isLetter : pwChkM pwM_X5_isLetter (0, 604, 603, 0, 55) = true := by decide +kernel
theorem pwFm_X5_isSetting : pwChkM pwM_X5_isSetting (0, 653, 652, 0, 55) = true := by decide +kernel
theorem pwFm_X5_isTicks : pwChkM pwM_X5_isTicks (0, 684, 683, 0, 55) = true := by decide +kernel
theorem pwFm_X5_makeNew : pwChkM pwM_X5_makeNew (1, 580, 578, 579, 55) = true := by decide +kernel
theorem pwFm_X5_become : pwChkM pwM_X5_become (1, 333, 331, 332, 55) = true := by decide +kernel
theorem pwFm_X5_hasWalker : pwChkM pwM_X5_hasWalker (1, 665, 663, 664, 55) = true := by decide +kernel
theorem pwFm_X5_hasPlace : pwChkM pwM_X5_hasPlace (1, 817, 815, 816, 55) = true := by decide +kernel
theorem pwFm_X5_isFull : pwChkM pwM_X5_isFull (1, 608, 606, 607, 55) = true := by decide +kernel
theorem pwFm_X5_mayGrow : pwChkM pwM_X5_mayGrow (1, 623, 621, 622, 55) = true := by decide +kernel
theorem pwFm_X5_walkerAt : pwChkM pwM_X5_walkerAt (1, 707, 705, 706, 55) = true := by decide +kernel
theorem pwFm_X5_letterOf : pwChkM pwM_X5_letterOf (1, 720, 718, 719, 55) = true := by decide +kernel
theorem pwFm_X5_placeOf : pwChkM pwM_X5_placeOf (1, 677, 675, 676, 55) = true := by decide +kernel
theorem pwFm_X5_standingOf : pwChkM pwM_X5_standingOf (1, 673, 671, 672, 55) = true := by decide +kernel
theorem pwFm_X5_hasCome : pwChkM pwM_X5_hasCome (1, 669, 667, 668, 55) = true := by decide +kernel
theorem pwFm_X5_come : pwChkM pwM_X5_come (1, 388, 386, 387, 55) = true := by decide +kernel
theorem pwFm_X5_allHaveCome : pwChkM pwM_X5_allHaveCome (1, 380, 378, 379, 55) = true := by decide +kernel
theorem pwFm_X5_countStanding : pwChkM pwM_X5_countStanding (1, 356, 354, 355, 55) = true := by decide +kernel
theorem pwFm_X5_countOnStreet : pwChkM pwM_X5_countOnStreet (1, 784, 783, 20, 55) = true := by decide +kernel
theorem pwFm_X5_walkerInCell : pwChkM pwM_X5_walkerInCell (1, 806, 804, 805, 55) = true := by decide +kernel
theorem pwFm_X5_isInCell : pwChkM pwM_X5_isInCell (1, 405, 404, 7, 55) = true := by decide +kernel
theorem pwFm_X5_wrongPairs : pwChkM pwM_X5_wrongPairs (1, 463, 461, 462, 55) = true := by decide +kernel
theorem pwFm_X5_numberOfWalker : pwChkM pwM_X5_numberOfWalker (1, 754, 752, 753, 55) = true := by decide +kernel
theorem pwFm_X5_numberOfStreet : pwChkM pwM_X5_numberOfStreet (1, 768, 766, 767, 55) = true := by decide +kernel
theorem pwFm_X5_addWalker : pwChkM pwM_X5_addWalker (1, 612, 610, 611, 55) = true := by decide +kernel
theorem pwFm_X5_changeLetter : pwChkM pwM_X5_changeLetter (1, 876, 874, 875, 55) = true := by decide +kernel
theorem pwFm_X5_swapWalkers : pwChkM pwM_X5_swapWalkers (1, 890, 888, 889, 55) = true := by decide +kernel
theorem pwFm_X5_sendBack : pwChkM pwM_X5_sendBack (1, 352, 350, 351, 55) = true := by decide +kernel
theorem pwFm_X5_changeSetting : pwChkM pwM_X5_changeSetting (1, 657, 655, 656, 55) = true := by decide +kernel
theorem pwFm_X5_triesWalker : pwChkM pwM_X5_triesWalker (1, 601, 599, 600, 55) = true := by decide +kernel
theorem pwFm_X5_triesStreet : pwChkM pwM_X5_triesStreet (1, 616, 614, 615, 55) = true := by decide +kernel
theorem pwFm_X5_triesShift : pwChkM pwM_X5_triesShift (1, 635, 633, 634, 55) = true := by decide +kernel
theorem pwFm_X5_triesExchange : pwChkM pwM_X5_triesExchange (1, 661, 659, 660, 55) = true := by decide +kernel
theorem pwFm_X5_triesSetting : pwChkM pwM_X5_triesSetting (1, 650, 648, 649, 55) = true := by decide +kernel
theorem pwFm_X5_triesTicks : pwChkM pwM_X5_triesTicks (1, 681, 679, 680, 55) = true := by decide +kernel
theorem pwFm_X5_ticksUntilAllIn : pwChkM pwM_X5_ticksUntilAllIn (1, 376, 374, 375, 55) = true := by decide +kernel
theorem pwFm_X5_runWhileAnyoneWalks : pwChkM pwM_X5_runWhileAnyoneWalks (1, 459, 457, 458, 55) = true := by decide +kernel
theorem pwFm_X5_tick : pwChkM pwM_X5_tick (1, 384, 382, 383, 55) = true := by decide +kernel
theorem pwFm_X5_endOf : pwChkM pwM_X5_endOf (1, 392, 391, 5, 55) = true := by decide +kernel
theorem pwFm_X5_mayLeave : pwChkM pwM_X5_mayLeave (1, 396, 395, 6, 55) = true := by decide +kernel
theorem pwFm_X5_leave : pwChkM pwM_X5_leave (1, 419, 418, 10, 55) = true := by decide +kernel
theorem pwFm_X5_leavingPlace : pwChkM pwM_X5_leavingPlace (1, 409, 408, 8, 55) = true := by decide +kernel
theorem pwFm_X5_lowestPlace : pwChkM pwM_X5_lowestPlace (1, 413, 412, 9, 55) = true := by decide +kernel
theorem pwFm_X5_bringForward : pwChkM pwM_X5_bringForward (1, 423, 422, 11, 55) = true := by decide +kernel
theorem pwFm_X5_joinsCrowd : pwChkM pwM_X5_joinsCrowd (1, 431, 430, 12, 55) = true := by decide +kernel
theorem pwFm_X5_moveOn : pwChkM pwM_X5_moveOn (1, 443, 442, 13, 55) = true := by decide +kernel
theorem pwFm_X5_mix : pwChkM pwM_X5_mix (1, 447, 446, 14, 55) = true := by decide +kernel
theorem pwFm_X5_swapPlaces : pwChkM pwM_X5_swapPlaces (1, 451, 450, 15, 55) = true := by decide +kernel
theorem pwFm_X5_stand : pwChkM pwM_X5_stand (1, 362, 361, 4, 55) = true := by decide +kernel
theorem pwFm_X6_init : pwChkM pwM_X6_init (2, 82, 81, 0, 54) = true := by decide +kernel
theorem pwFm_X6_isFull : pwChkM pwM_X6_isFull (1, 548, 546, 547, 54) = true := by decide +kernel
theorem pwFm_X6_addSign : pwChkM pwM_X6_addSign (1, 568, 566, 567, 54) = true := by decide +kernel
theorem pwFm_X6_emptied : pwChkM pwM_X6_emptied (1, 268, 266, 267, 54) = true := by decide +kernel
theorem pwFm_X6_firstError : pwChkM pwM_X6_firstError (1, 276, 274, 275, 54) = true := by decide +kernel
theorem pwFm_X6_beginReading : pwChkM pwM_X6_beginReading (1, 283, 281, 282, 54) = true := by decide +kernel
theorem pwFm_X6_endsCommand : pwChkM pwM_X6_endsCommand (1, 593, 591, 592, 54) = true := by decide +kernel
theorem pwFm_X6_takes : pwChkM pwM_X6_takes (1, 287, 286, 0, 54) = true := by decide +kernel
theorem pwFm_X6_takesLetter : pwChkM pwM_X6_takesLetter (1, 291, 290, 1, 54) = true := by decide +kernel
theorem pwFm_X6_rangesOf : pwChkM pwM_X6_rangesOf (0, 294, 293, 0, 54) = true := by decide +kernel
theorem pwFm_X6_takesNumberSign : pwChkM pwM_X6_takesNumberSign (1, 314, 313, 2, 54) = true := by decide +kernel
theorem pwFm_X6_carriesOut : pwChkM pwM_X6_carriesOut (1, 597, 595, 596, 54) = true := by decide +kernel
theorem pwFm_X7_init : pwChkM pwM_X7_init (2, 74, 73, 0, 53) = true := by decide +kernel
theorem pwFm_X7_append : pwChkM pwM_X7_append (1, 476, 474, 475, 53) = true := by decide +kernel
theorem pwFm_X7_clearText : pwChkM pwM_X7_clearText (1, 264, 262, 263, 53) = true := by decide +kernel
theorem pwFm_X7_errorPosition : pwChkM pwM_X7_errorPosition (1, 272, 270, 271, 53) = true := by decide +kernel
theorem pwFm_X7_load : pwChkM pwM_X7_load (1, 575, 573, 574, 53) = true := by decide +kernel
theorem pwFm_X7_about : pwChkM pwM_X7_about (1, 691, 689, 690, 53) = true := by decide +kernel
theorem pwFm_X7_walkerOf : pwChkM pwM_X7_walkerOf (1, 732, 730, 731, 53) = true := by decide +kernel
theorem pwFm_X7_streetOf : pwChkM pwM_X7_streetOf (1, 761, 759, 760, 53) = true := by decide +kernel
theorem pwFm_X7_cell : pwChkM pwM_X7_cell (1, 800, 798, 799, 53) = true := by decide +kernel
theorem pwFm_X7_file : pwChkM pwM_X7_file (1, 813, 811, 812, 53) = true := by decide +kernel
theorem pwFm_X7_read : pwChkM pwM_X7_read (1, 826, 824, 825, 53) = true := by decide +kernel
theorem pwFm_X7_walker : pwChkM pwM_X7_walker (1, 838, 836, 837, 53) = true := by decide +kernel
theorem pwFm_X7_street : pwChkM pwM_X7_street (1, 850, 848, 849, 53) = true := by decide +kernel
theorem pwFm_X7_shift : pwChkM pwM_X7_shift (1, 862, 860, 861, 53) = true := by decide +kernel
theorem pwFm_X7_letter : pwChkM pwM_X7_letter (1, 872, 870, 871, 53) = true := by decide +kernel
theorem pwFm_X7_exchange : pwChkM pwM_X7_exchange (1, 883, 881, 882, 53) = true := by decide +kernel
theorem pwFm_X7_back : pwChkM pwM_X7_back (1, 321, 319, 320, 53) = true := by decide +kernel
theorem pwFm_X7_set : pwChkM pwM_X7_set (1, 898, 896, 897, 53) = true := by decide +kernel
theorem pwFm_X7_ticks : pwChkM pwM_X7_ticks (1, 908, 906, 907, 53) = true := by decide +kernel
theorem pwFm_X7_undo : pwChkM pwM_X7_undo (1, 919, 917, 918, 53) = true := by decide +kernel
theorem pwFm_X7_allIn : pwChkM pwM_X7_allIn (1, 371, 369, 370, 53) = true := by decide +kernel
theorem pwFm_X7_later : pwChkM pwM_X7_later (1, 931, 929, 930, 53) = true := by decide +kernel
theorem pwFm_X7_bestRule : pwChkM pwM_X7_bestRule (1, 455, 453, 454, 53) = true := by decide +kernel
theorem pwFm_X7_bestShift : pwChkM pwM_X7_bestShift (1, 939, 937, 938, 53) = true := by decide +kernel
theorem pwFm_X7_bestExchange : pwChkM pwM_X7_bestExchange (1, 946, 944, 945, 53) = true := by decide +kernel
theorem pwFm_X7_gainOnTrial : pwChkM pwM_X7_gainOnTrial (1, 951, 950, 21, 53) = true := by decide +kernel
theorem pwFm_X7_runScript : pwChkM pwM_X7_runScript (1, 958, 956, 957, 53) = true := by decide +kernel
theorem pwFm_X7_simulate : pwChkM pwM_X7_simulate (1, 988, 986, 987, 53) = true := by decide +kernel
theorem pwFm_X7_takeTurn : pwChkM pwM_X7_takeTurn (1, 995, 994, 22, 53) = true := by decide +kernel
theorem pwFm_X7_save : pwChkM pwM_X7_save (1, 1008, 1006, 1007, 53) = true := by decide +kernel
theorem pwFm_X7_restore : pwChkM pwM_X7_restore (1, 1016, 1014, 1015, 53) = true := by decide +kernel
theorem pwFm_X7_at : pwChkM pwM_X7_at (0, 279, 278, 0, 53) = true := by decide +kernel
theorem pwFm_X7_put : pwChkM pwM_X7_put (0, 317, 316, 0, 53) = true := by decide +kernel
theorem pwFm_X7_copyRow : pwChkM pwM_X7_copyRow (0, 340, 339, 0, 53) = true := by decide +kernel
theorem pwFm_X7_pairsFalling : pwChkM pwM_X7_pairsFalling (0, 466, 465, 0, 53) = true := by decide +kernel
theorem pwFm_X8_init : pwChkM pwM_X8_init (2, 1022, 1021, 0, 60) = true := by decide +kernel
theorem pwFm_X8_thrown : pwChkM pwM_X8_thrown (1, 1077, 1075, 1076, 60) = true := by decide +kernel
theorem pwFm_X8_refused : pwChkM pwM_X8_refused (1, 1089, 1088, 23, 60) = true := by decide +kernel
theorem pwFm_X8_in : pwChkM pwM_X8_in (0, 1085, 1084, 0, 60) = true := by decide +kernel
theorem pwFm_X8_tens : pwChkM pwM_X8_tens (0, 1371, 1370, 0, 60) = true := by decide +kernel
theorem pwFm_X8_fresh : pwChkM pwM_X8_fresh (0, 1026, 1025, 0, 60) = true := by decide +kernel
theorem pwFm_X8_copy : pwChkM pwM_X8_copy (0, 1224, 1223, 0, 60) = true := by decide +kernel
theorem pwFm_X8_isWalker : pwChkM pwM_X8_isWalker (0, 1156, 1155, 0, 60) = true := by decide +kernel
theorem pwFm_X8_isStreet : pwChkM pwM_X8_isStreet (0, 1184, 1183, 0, 60) = true := by decide +kernel
theorem pwFm_X8_isShift : pwChkM pwM_X8_isShift (0, 1306, 1305, 0, 60) = true := by decide +kernel
theorem pwFm_X8_isLetter : pwChkM pwM_X8_isLetter (0, 1120, 1119, 0, 60) = true := by decide +kernel
theorem pwFm_X8_isSetting : pwChkM pwM_X8_isSetting (0, 1329, 1328, 0, 60) = true := by decide +kernel
theorem pwFm_X8_isLaid : pwChkM pwM_X8_isLaid (0, 1296, 1295, 0, 60) = true := by decide +kernel
theorem pwFm_X8_block : pwChkM pwM_X8_block (0, 1149, 1148, 0, 60) = true := by decide +kernel
theorem pwFm_X8_isGreen : pwChkM pwM_X8_isGreen (0, 1199, 1198, 0, 60) = true := by decide +kernel
theorem pwFm_X8_slot : pwChkM pwM_X8_slot (0, 1162, 1161, 0, 60) = true := by decide +kernel
theorem pwFm_X8_spot : pwChkM pwM_X8_spot (0, 1165, 1164, 0, 60) = true := by decide +kernel
theorem pwFm_X8_layFile : pwChkM pwM_X8_layFile (1, 1177, 1176, 36, 60) = true := by decide +kernel
theorem pwFm_X8_wrong : pwChkM pwM_X8_wrong (1, 1173, 1172, 35, 60) = true := by decide +kernel
theorem pwFm_X8_longest : pwChkM pwM_X8_longest (1, 1243, 1242, 39, 60) = true := by decide +kernel
theorem pwFm_X8_right : pwChkM pwM_X8_right (1, 1247, 1246, 40, 60) = true := by decide +kernel
theorem pwFm_X8_exchanges : pwChkM pwM_X8_exchanges (1, 1251, 1250, 41, 60) = true := by decide +kernel
theorem pwFm_X8_inCells : pwChkM pwM_X8_inCells (0, 1239, 1238, 0, 60) = true := by decide +kernel
theorem pwFm_X8_all : pwChkM pwM_X8_all (0, 1236, 1235, 0, 60) = true := by decide +kernel
theorem pwFm_X8_told : pwChkM pwM_X8_told (1, 1233, 1232, 38, 60) = true := by decide +kernel
theorem pwFm_X8_drawn : pwChkM pwM_X8_drawn (0, 1205, 1204, 0, 60) = true := by decide +kernel
theorem pwFm_X8_chosen : pwChkM pwM_X8_chosen (0, 1202, 1201, 0, 60) = true := by decide +kernel
theorem pwFm_X8_leave : pwChkM pwM_X8_leave (0, 1196, 1195, 0, 60) = true := by decide +kernel
theorem pwFm_X8_walk : pwChkM pwM_X8_walk (0, 1211, 1210, 0, 60) = true := by decide +kernel
theorem pwFm_X8_pass : pwChkM pwM_X8_pass (0, 1214, 1213, 0, 60) = true := by decide +kernel
theorem pwFm_X8_setOut : pwChkM pwM_X8_setOut (0, 1217, 1216, 0, 60) = true := by decide +kernel
theorem pwFm_X8_tick : pwChkM pwM_X8_tick (0, 1193, 1192, 0, 60) = true := by decide +kernel
theorem pwFm_X8_goTicks : pwChkM pwM_X8_goTicks (0, 1190, 1189, 0, 60) = true := by decide +kernel
theorem pwFm_X8_goWalker : pwChkM pwM_X8_goWalker (0, 1128, 1127, 0, 60) = true := by decide +kernel
theorem pwFm_X8_canStreet : pwChkM pwM_X8_canStreet (0, 1143, 1142, 0, 60) = true := by decide +kernel
theorem pwFm_X8_goStreet : pwChkM pwM_X8_goStreet (0, 1146, 1145, 0, 60) = true := by decide +kernel
theorem pwFm_X8_put : pwChkM pwM_X8_put (0, 1187, 1186, 0, 60) = true := by decide +kernel
theorem pwFm_X8_canExchange : pwChkM pwM_X8_canExchange (0, 1159, 1158, 0, 60) = true := by decide +kernel
theorem pwFm_X8_goExchange : pwChkM pwM_X8_goExchange (1, 1169, 1168, 34, 60) = true := by decide +kernel
theorem pwFm_X8_goBack : pwChkM pwM_X8_goBack (0, 1322, 1321, 0, 60) = true := by decide +kernel
theorem pwFm_X8_goIn : pwChkM pwM_X8_goIn (0, 1346, 1345, 0, 60) = true := by decide +kernel
theorem pwFm_X8_remember : pwChkM pwM_X8_remember (1, 1289, 1288, 44, 60) = true := by decide +kernel
theorem pwFm_X8_append : pwChkM pwM_X8_append (1, 1081, 1079, 1080, 60) = true := by decide +kernel
theorem pwFm_X8_clearText : pwChkM pwM_X8_clearText (1, 1093, 1091, 1092, 60) = true := by decide +kernel
theorem pwFm_X8_here : pwChkM pwM_X8_here (1, 1105, 1104, 25, 60) = true := by decide +kernel
theorem pwFm_X8_take : pwChkM pwM_X8_take (1, 1109, 1108, 26, 60) = true := by decide +kernel
theorem pwFm_X8_digit : pwChkM pwM_X8_digit (1, 1140, 1139, 32, 60) = true := by decide +kernel
theorem pwFm_X8_two : pwChkM pwM_X8_two (1, 1136, 1135, 31, 60) = true := by decide +kernel
theorem pwFm_X8_goes : pwChkM pwM_X8_goes (1, 1125, 1124, 29, 60) = true := by decide +kernel
theorem pwFm_X8_readWalker : pwChkM pwM_X8_readWalker (1, 1117, 1116, 28, 60) = true := by decide +kernel
theorem pwFm_X8_readStreet : pwChkM pwM_X8_readStreet (1, 1132, 1131, 30, 60) = true := by decide +kernel
theorem pwFm_X8_readExchange : pwChkM pwM_X8_readExchange (1, 1153, 1152, 33, 60) = true := by decide +kernel
theorem pwFm_X8_readNumber : pwChkM pwM_X8_readNumber (1, 1181, 1180, 37, 60) = true := by decide +kernel
theorem pwFm_X8_readCommand : pwChkM pwM_X8_readCommand (1, 1113, 1112, 27, 60) = true := by decide +kernel
theorem pwFm_X8_readAll : pwChkM pwM_X8_readAll (1, 1101, 1100, 24, 60) = true := by decide +kernel
theorem pwFm_X8_errorPosition : pwChkM pwM_X8_errorPosition (1, 1097, 1095, 1096, 60) = true := by decide +kernel
theorem pwFm_X8_load : pwChkM pwM_X8_load (1, 1221, 1219, 1220, 60) = true := by decide +kernel
theorem pwFm_X8_about : pwChkM pwM_X8_about (1, 1228, 1226, 1227, 60) = true := by decide +kernel
theorem pwFm_X8_placeInFile : pwChkM pwM_X8_placeInFile (1, 1260, 1259, 42, 60) = true := by decide +kernel
theorem pwFm_X8_walkerOf : pwChkM pwM_X8_walkerOf (1, 1255, 1253, 1254, 60) = true := by decide +kernel
theorem pwFm_X8_readWrong : pwChkM pwM_X8_readWrong (1, 1269, 1268, 43, 60) = true := by decide +kernel
theorem pwFm_X8_streetOf : pwChkM pwM_X8_streetOf (1, 1264, 1262, 1263, 60) = true := by decide +kernel
theorem pwFm_X8_cell : pwChkM pwM_X8_cell (1, 1273, 1271, 1272, 60) = true := by decide +kernel
theorem pwFm_X8_file : pwChkM pwM_X8_file (1, 1277, 1275, 1276, 60) = true := by decide +kernel
theorem pwFm_X8_read : pwChkM pwM_X8_read (1, 1281, 1279, 1280, 60) = true := by decide +kernel
theorem pwFm_X8_walker : pwChkM pwM_X8_walker (1, 1285, 1283, 1284, 60) = true := by decide +kernel
theorem pwFm_X8_street : pwChkM pwM_X8_street (1, 1293, 1291, 1292, 60) = true := by decide +kernel
theorem pwFm_X8_shift : pwChkM pwM_X8_shift (1, 1303, 1301, 1302, 60) = true := by decide +kernel
theorem pwFm_X8_letter : pwChkM pwM_X8_letter (1, 1311, 1309, 1310, 60) = true := by decide +kernel
theorem pwFm_X8_exchange : pwChkM pwM_X8_exchange (1, 1315, 1313, 1314, 60) = true := by decide +kernel
theorem pwFm_X8_back : pwChkM pwM_X8_back (1, 1319, 1317, 1318, 60) = true := by decide +kernel
theorem pwFm_X8_set : pwChkM pwM_X8_set (1, 1326, 1324, 1325, 60) = true := by decide +kernel
theorem pwFm_X8_ticks : pwChkM pwM_X8_ticks (1, 1334, 1332, 1333, 60) = true := by decide +kernel
theorem pwFm_X8_undo : pwChkM pwM_X8_undo (1, 1339, 1337, 1338, 60) = true := by decide +kernel
theorem pwFm_X8_allIn : pwChkM pwM_X8_allIn (1, 1343, 1341, 1342, 60) = true := by decide +kernel
theorem pwFm_X8_later : pwChkM pwM_X8_later (1, 1350, 1348, 1349, 60) = true := by decide +kernel
theorem pwFm_X8_bestRule : pwChkM pwM_X8_bestRule (1, 1356, 1354, 1355, 60) = true := by decide +kernel
theorem pwFm_X8_bestShift : pwChkM pwM_X8_bestShift (1, 1360, 1358, 1359, 60) = true := by decide +kernel
theorem pwFm_X8_bestExchange : pwChkM pwM_X8_bestExchange (1, 1364, 1362, 1363, 60) = true := by decide +kernel
theorem pwFm_X8_runTicks : pwChkM pwM_X8_runTicks (1, 1381, 1380, 46, 60) = true := by decide +kernel
theorem pwFm_X8_runExchange : pwChkM pwM_X8_runExchange (1, 1385, 1384, 47, 60) = true := by decide +kernel
theorem pwFm_X8_runShift : pwChkM pwM_X8_runShift (1, 1389, 1388, 48, 60) = true := by decide +kernel
theorem pwFm_X8_runSet : pwChkM pwM_X8_runSet (1, 1393, 1392, 49, 60) = true := by decide +kernel
theorem pwFm_X8_isAt : pwChkM pwM_X8_isAt (1, 1397, 1396, 50, 60) = true := by decide +kernel
theorem pwFm_X8_command : pwChkM pwM_X8_command (1, 1376, 1375, 45, 60) = true := by decide +kernel
theorem pwFm_X8_runScript : pwChkM pwM_X8_runScript (1, 1368, 1366, 1367, 60) = true := by decide +kernel
theorem pwFm_X8_stir : pwChkM pwM_X8_stir (1, 1406, 1405, 51, 60) = true := by decide +kernel
theorem pwFm_X8_simulate : pwChkM pwM_X8_simulate (1, 1401, 1399, 1400, 60) = true := by decide +kernel
theorem pwFm_X8_save : pwChkM pwM_X8_save (1, 1411, 1409, 1410, 60) = true := by decide +kernel
theorem pwFm_X8_restore : pwChkM pwM_X8_restore (1, 1415, 1413, 1414, 60) = true := by decide +kernel
theorem pwFm_L_append : pwChkM pwM_L_append (0, 470, 469, 0, 52) = true := by decide +kernel
theorem pwFm_L_load : pwChkM pwM_L_load (0, 571, 570, 0, 52) = true := by decide +kernel
theorem pwFm_L_about : pwChkM pwM_L_about (0, 687, 686, 0, 52) = true := by decide +kernel
theorem pwFm_L_walkerOf : pwChkM pwM_L_walkerOf (0, 727, 726, 0, 52) = true := by decide +kernel
theorem pwFm_L_streetOf : pwChkM pwM_L_streetOf (0, 757, 756, 0, 52) = true := by decide +kernel
theorem pwFm_L_cell : pwChkM pwM_L_cell (0, 796, 795, 0, 52) = true := by decide +kernel
theorem pwFm_L_file : pwChkM pwM_L_file (0, 809, 808, 0, 52) = true := by decide +kernel
theorem pwFm_L_read : pwChkM pwM_L_read (0, 822, 821, 0, 52) = true := by decide +kernel
theorem pwFm_L_walker : pwChkM pwM_L_walker (0, 834, 833, 0, 52) = true := by decide +kernel
theorem pwFm_L_street : pwChkM pwM_L_street (0, 846, 845, 0, 52) = true := by decide +kernel
theorem pwFm_L_shift : pwChkM pwM_L_shift (0, 858, 857, 0, 52) = true := by decide +kernel
theorem pwFm_L_letter : pwChkM pwM_L_letter (0, 868, 867, 0, 52) = true := by decide +kernel
theorem pwFm_L_exchange : pwChkM pwM_L_exchange (0, 879, 878, 0, 52) = true := by decide +kernel
theorem pwFm_L_set : pwChkM pwM_L_set (0, 894, 893, 0, 52) = true := by decide +kernel
theorem pwFm_L_ticks : pwChkM pwM_L_ticks (0, 904, 903, 0, 52) = true := by decide +kernel
theorem pwFm_L_undo : pwChkM pwM_L_undo (0, 915, 914, 0, 52) = true := by decide +kernel
theorem pwFm_L_later : pwChkM pwM_L_later (0, 927, 926, 0, 52) = true := by decide +kernel
theorem pwFm_L_bestShift : pwChkM pwM_L_bestShift (0, 935, 934, 0, 52) = true := by decide +kernel
theorem pwFm_L_bestExchange : pwChkM pwM_L_bestExchange (0, 942, 941, 0, 52) = true := by decide +kernel
theorem pwFm_L_runScript : pwChkM pwM_L_runScript (0, 954, 953, 0, 52) = true := by decide +kernel
theorem pwFm_L_simulate : pwChkM pwM_L_simulate (0, 984, 983, 0, 52) = true := by decide +kernel
theorem pwFm_L_save : pwChkM pwM_L_save (0, 1004, 1003, 0, 52) = true := by decide +kernel
theorem pwFm_L_restore : pwChkM pwM_L_restore (0, 1012, 1011, 0, 52) = true := by decide +kernel
theorem pwCc {f : pwE → Bool} {c : Nat × List pwE} {cs : List (Nat × List pwE)} (h1 : c.2.all f = true) (h2 : (cs.all fun c => c.2.all f) = true) : ((c :: cs).all fun c => c.2.all f) = true := by rw [List.all_cons, h1, h2]; rfl
theorem pwFc_X0_init : pwChkC pwM_X0_init = true := by decide +kernel
theorem pwFc_X0_forgetAll : pwChkC pwM_X0_forgetAll = true := by decide +kernel
theorem pwFc_X0_remember : pwChkC pwM_X0_remember = true := by decide +kernel
theorem pwFc_X0_takeBack : pwChkC pwM_X0_takeBack = true := by decide +kernel
theorem pwFc_X0_stateAt : pwChkC pwM_X0_stateAt = true := by decide +kernel
theorem pwFc_X1_init : pwChkC pwM_X1_init = true := by decide +kernel
theorem pwFc_X1_numberOf : pwChkC pwM_X1_numberOf = true := by decide +kernel
theorem pwFc_X1_longestRise : pwChkC pwM_X1_longestRise = true := by decide +kernel
theorem pwFc_X1_rightLetters : pwChkC pwM_X1_rightLetters = true := by decide +kernel
theorem pwFc_X1_mendingExchanges : pwChkC pwM_X1_mendingExchanges = true := by decide +kernel
theorem pwFc_X2_groupFromEnd : pwChkC pwM_X2_groupFromEnd = true := by decide +kernel
theorem pwFc_X2_succeeds : pwChkC pwM_X2_succeeds = true := by decide +kernel
theorem pwFc_X2_hasZerosInPlace : pwChkC pwM_X2_hasZerosInPlace = true := by decide +kernel
theorem pwFc_X3_init : pwChkC pwM_X3_init = true := by decide +kernel
theorem pwFc_X4_init : pwChkC pwM_X4_init = true := by decide +kernel
theorem pwFc_X4_isStreet : pwChkC pwM_X4_isStreet = true := by decide +kernel
theorem pwFc_X4_isShift : pwChkC pwM_X4_isShift = true := by decide +kernel
theorem pwFc_X4_exists : pwChkC pwM_X4_exists = true := by decide +kernel
theorem pwFc_X4_isFull : pwChkC pwM_X4_isFull = true := by decide +kernel
theorem pwFc_X4_removeAll : pwChkC pwM_X4_removeAll = true := by decide +kernel
theorem pwFc_X4_become : pwChkC pwM_X4_become = true := by decide +kernel
theorem pwFc_X4_addStreet : pwChkC pwM_X4_addStreet = true := by decide +kernel
theorem pwFc_X4_cellsOf : pwChkC pwM_X4_cellsOf = true := by decide +kernel
theorem pwFc_X4_greenOf : pwChkC pwM_X4_greenOf = true := by decide +kernel
theorem pwFc_X4_redOf : pwChkC pwM_X4_redOf = true := by decide +kernel
theorem pwFc_X4_shiftOf : pwChkC pwM_X4_shiftOf = true := by decide +kernel
theorem pwFc_X4_widthOf : pwChkC pwM_X4_widthOf = true := by decide +kernel
theorem pwFc_X4_changeShift : pwChkC pwM_X4_changeShift = true := by decide +kernel
theorem pwFc_X4_isGreen : pwChkC pwM_X4_isGreen = true := by decide +kernel
theorem pwFc_X4_noteReader : pwChkC pwM_X4_noteReader = true := by decide +kernel
theorem pwFc_X4_forgetReaders : pwChkC pwM_X4_forgetReaders = true := by decide +kernel
theorem pwFc_X4_readCountOf : pwChkC pwM_X4_readCountOf = true := by decide +kernel
theorem pwFc_X4_readAt : pwChkC pwM_X4_readAt = true := by decide +kernel
theorem pwFc_X4_pairsReadFalling : pwChkC pwM_X4_pairsReadFalling = true := by decide +kernel
theorem pwFc_X5_init : pwChkC pwM_X5_init = true := by decide +kernel
theorem pwFc_X5_isLetter : pwChkC pwM_X5_isLetter = true := by decide +kernel
theorem pwFc_X5_isSetting : pwChkC pwM_X5_isSetting = true := by decide +kernel
theorem pwFc_X5_isTicks : pwChkC pwM_X5_isTicks = true := by decide +kernel
theorem pwFc_X5_makeNew : pwChkC pwM_X5_makeNew = true := by decide +kernel
theorem pwFc_X5_become : pwChkC pwM_X5_become = true := by decide +kernel
theorem pwFc_X5_hasWalker : pwChkC pwM_X5_hasWalker = true := by decide +kernel
theorem pwFc_X5_hasPlace : pwChkC pwM_X5_hasPlace = true := by decide +kernel
theorem pwFc_X5_isFull : pwChkC pwM_X5_isFull = true := by decide +kernel
theorem pwFc_X5_mayGrow : pwChkC pwM_X5_mayGrow = true := by decide +kernel
theorem pwFc_X5_walkerAt : pwChkC pwM_X5_walkerAt = true := by decide +kernel
theorem pwFc_X5_letterOf : pwChkC pwM_X5_letterOf = true := by decide +kernel
theorem pwFc_X5_placeOf : pwChkC pwM_X5_placeOf = true := by decide +kernel
theorem pwFc_X5_standingOf : pwChkC pwM_X5_standingOf = true := by decide +kernel
theorem pwFc_X5_hasCome : pwChkC pwM_X5_hasCome = true := by decide +kernel
theorem pwFc_X5_come : pwChkC pwM_X5_come = true := by decide +kernel
theorem pwFc_X5_allHaveCome : pwChkC pwM_X5_allHaveCome = true := by decide +kernel
theorem pwFc_X5_countStanding : pwChkC pwM_X5_countStanding = true := by decide +kernel
theorem pwFc_X5_countOnStreet : pwChkC pwM_X5_countOnStreet = true := by decide +kernel
theorem pwFc_X5_walkerInCell : pwChkC pwM_X5_walkerInCell = true := by decide +kernel
theorem pwFc_X5_isInCell : pwChkC pwM_X5_isInCell = true := by decide +kernel
theorem pwFc_X5_wrongPairs : pwChkC pwM_X5_wrongPairs = true := by decide +kernel
theorem pwFc_X5_numberOfWalker : pwChkC pwM_X5_numberOfWalker = true := by decide +kernel
theorem pwFc_X5_numberOfStreet : pwChkC pwM_X5_numberOfStreet = true := by decide +kernel
theorem pwFc_X5_addWalker : pwChkC pwM_X5_addWalker = true := by decide +kernel
theorem pwFc_X5_changeLetter : pwChkC pwM_X5_changeLetter = true := by decide +kernel
theorem pwFc_X5_swapWalkers : pwChkC pwM_X5_swapWalkers = true := by decide +kernel
theorem pwFc_X5_sendBack : pwChkC pwM_X5_sendBack = true := by decide +kernel
theorem pwFc_X5_changeSetting : pwChkC pwM_X5_changeSetting = true := by decide +kernel
theorem pwFc_X5_triesWalker : pwChkC pwM_X5_triesWalker = true := by decide +kernel
theorem pwFc_X5_triesStreet : pwChkC pwM_X5_triesStreet = true := by decide +kernel
theorem pwFc_X5_triesShift : pwChkC pwM_X5_triesShift = true := by decide +kernel
theorem pwFc_X5_triesExchange : pwChkC pwM_X5_triesExchange = true := by decide +kernel
theorem pwFc_X5_triesSetting : pwChkC pwM_X5_triesSetting = true := by decide +kernel
theorem pwFc_X5_triesTicks : pwChkC pwM_X5_triesTicks = true := by decide +kernel
theorem pwFc_X5_ticksUntilAllIn : pwChkC pwM_X5_ticksUntilAllIn = true := by decide +kernel
theorem pwFc_X5_runWhileAnyoneWalks : pwChkC pwM_X5_runWhileAnyoneWalks = true := by decide +kernel
theorem pwFc_X5_tick : pwChkC pwM_X5_tick = true := by decide +kernel
theorem pwFc_X5_endOf : pwChkC pwM_X5_endOf = true := by decide +kernel
theorem pwFc_X5_mayLeave : pwChkC pwM_X5_mayLeave = true := by decide +kernel
theorem pwFc_X5_leave : pwChkC pwM_X5_leave = true := by decide +kernel
theorem pwFc_X5_leavingPlace : pwChkC pwM_X5_leavingPlace = true := by decide +kernel
theorem pwFc_X5_lowestPlace : pwChkC pwM_X5_lowestPlace = true := by decide +kernel
theorem pwFc_X5_bringForward : pwChkC pwM_X5_bringForward = true := by decide +kernel
theorem pwFc_X5_joinsCrowd : pwChkC pwM_X5_joinsCrowd = true := by decide +kernel
theorem pwFc_X5_moveOn : pwChkC pwM_X5_moveOn = true := by decide +kernel
theorem pwFc_X5_mix : pwChkC pwM_X5_mix = true := by decide +kernel
theorem pwFc_X5_swapPlaces : pwChkC pwM_X5_swapPlaces = true := by decide +kernel
theorem pwFc_X5_stand : pwChkC pwM_X5_stand = true := by decide +kernel
theorem pwFc_X6_init : pwChkC pwM_X6_init = true := by decide +kernel
theorem pwFc_X6_isFull : pwChkC pwM_X6_isFull = true := by decide +kernel
theorem pwFc_X6_addSign : pwChkC pwM_X6_addSign = true := by decide +kernel
theorem pwFc_X6_emptied : pwChkC pwM_X6_emptied = true := by decide +kernel
theorem pwFc_X6_firstError : pwChkC pwM_X6_firstError = true := by decide +kernel
theorem pwFc_X6_beginReading : pwChkC pwM_X6_beginReading = true := by decide +kernel
theorem pwFc_X6_endsCommand : pwChkC pwM_X6_endsCommand = true := by decide +kernel
theorem pwFc_X6_takes : pwChkC pwM_X6_takes = true := by decide +kernel
theorem pwFc_X6_takesLetter : pwChkC pwM_X6_takesLetter = true := by decide +kernel
theorem pwFc_X6_rangesOf : pwChkC pwM_X6_rangesOf = true := by decide +kernel
theorem pwFc_X6_takesNumberSign : pwChkC pwM_X6_takesNumberSign = true := by decide +kernel
theorem pwFc_X6_carriesOut : pwChkC pwM_X6_carriesOut = true := by decide +kernel
theorem pwFc_X7_init : pwChkC pwM_X7_init = true := by decide +kernel
theorem pwFc_X7_append : pwChkC pwM_X7_append = true := by decide +kernel
theorem pwFc_X7_clearText : pwChkC pwM_X7_clearText = true := by decide +kernel
theorem pwFc_X7_errorPosition : pwChkC pwM_X7_errorPosition = true := by decide +kernel
theorem pwFc_X7_load : pwChkC pwM_X7_load = true := by decide +kernel
theorem pwFc_X7_about : pwChkC pwM_X7_about = true := by decide +kernel
theorem pwFc_X7_walkerOf : pwChkC pwM_X7_walkerOf = true := by decide +kernel
theorem pwFc_X7_streetOf : pwChkC pwM_X7_streetOf = true := by decide +kernel
theorem pwFc_X7_cell : pwChkC pwM_X7_cell = true := by decide +kernel
theorem pwFc_X7_file : pwChkC pwM_X7_file = true := by decide +kernel
theorem pwFc_X7_read : pwChkC pwM_X7_read = true := by decide +kernel
theorem pwFc_X7_walker : pwChkC pwM_X7_walker = true := by decide +kernel
theorem pwFc_X7_street : pwChkC pwM_X7_street = true := by decide +kernel
theorem pwFc_X7_shift : pwChkC pwM_X7_shift = true := by decide +kernel
theorem pwFc_X7_letter : pwChkC pwM_X7_letter = true := by decide +kernel
theorem pwFc_X7_exchange : pwChkC pwM_X7_exchange = true := by decide +kernel
theorem pwFc_X7_back : pwChkC pwM_X7_back = true := by decide +kernel
theorem pwFc_X7_set : pwChkC pwM_X7_set = true := by decide +kernel
theorem pwFc_X7_ticks : pwChkC pwM_X7_ticks = true := by decide +kernel
theorem pwFc_X7_undo : pwChkC pwM_X7_undo = true := by decide +kernel
theorem pwFc_X7_allIn : pwChkC pwM_X7_allIn = true := by decide +kernel
theorem pwFc_X7_later : pwChkC pwM_X7_later = true := by decide +kernel
theorem pwFc_X7_bestRule : pwChkC pwM_X7_bestRule = true := by decide +kernel
theorem pwFc_X7_bestShift : pwChkC pwM_X7_bestShift = true := by decide +kernel
theorem pwFc_X7_bestExchange : pwChkC pwM_X7_bestExchange = true := by decide +kernel
theorem pwFc_X7_gainOnTrial : pwChkC pwM_X7_gainOnTrial = true := by decide +kernel
theorem pwFc_X7_runScript : pwChkC pwM_X7_runScript = true := by decide +kernel
theorem pwFc_X7_simulate : pwChkC pwM_X7_simulate = true := by decide +kernel
theorem pwFc_X7_takeTurn : pwChkC pwM_X7_takeTurn = true := by decide +kernel
theorem pwFc_X7_save : pwChkC pwM_X7_save = true := by decide +kernel
theorem pwFc_X7_restore : pwChkC pwM_X7_restore = true := by decide +kernel
theorem pwFc_X7_at : pwChkC pwM_X7_at = true := by decide +kernel
theorem pwFc_X7_put : pwChkC pwM_X7_put = true := by decide +kernel
theorem pwFc_X7_copyRow : pwChkC pwM_X7_copyRow = true := by decide +kernel
theorem pwFc_X7_pairsFalling : pwChkC pwM_X7_pairsFalling = true := by decide +kernel
theorem pwFc_X8_init : pwChkC pwM_X8_init = true := by decide +kernel
theorem pwFc_X8_thrown : pwChkC pwM_X8_thrown = true := by decide +kernel
theorem pwFc_X8_refused : pwChkC pwM_X8_refused = true := by decide +kernel
theorem pwFc_X8_in : pwChkC pwM_X8_in = true := by decide +kernel
theorem pwFc_X8_tens : pwChkC pwM_X8_tens = true := by decide +kernel
theorem pwFc_X8_fresh : pwChkC pwM_X8_fresh = true := by decide +kernel
theorem pwFc_X8_copy : pwChkC pwM_X8_copy = true := by decide +kernel
theorem pwFc_X8_isWalker : pwChkC pwM_X8_isWalker = true := by decide +kernel
theorem pwFc_X8_isStreet : pwChkC pwM_X8_isStreet = true := by decide +kernel
theorem pwFc_X8_isShift : pwChkC pwM_X8_isShift = true := by decide +kernel
theorem pwFc_X8_isLetter : pwChkC pwM_X8_isLetter = true := by decide +kernel
theorem pwFc_X8_isSetting : pwChkC pwM_X8_isSetting = true := by decide +kernel
theorem pwFc_X8_isLaid : pwChkC pwM_X8_isLaid = true := by decide +kernel
theorem pwFc_X8_block : pwChkC pwM_X8_block = true := by decide +kernel
theorem pwFc_X8_isGreen : pwChkC pwM_X8_isGreen = true := by decide +kernel
theorem pwFc_X8_slot : pwChkC pwM_X8_slot = true := by decide +kernel
theorem pwFc_X8_spot : pwChkC pwM_X8_spot = true := by decide +kernel
theorem pwFc_X8_layFile : pwChkC pwM_X8_layFile = true := by decide +kernel
theorem pwFc_X8_wrong : pwChkC pwM_X8_wrong = true := by decide +kernel
theorem pwFc_X8_longest : pwChkC pwM_X8_longest = true := by decide +kernel
theorem pwFc_X8_right : pwChkC pwM_X8_right = true := by decide +kernel
theorem pwFc_X8_exchanges : pwChkC pwM_X8_exchanges = true := by decide +kernel
theorem pwFc_X8_inCells : pwChkC pwM_X8_inCells = true := by decide +kernel
theorem pwFc_X8_all : pwChkC pwM_X8_all = true := by decide +kernel
theorem pwFc_X8_told : pwChkC pwM_X8_told = true := by decide +kernel
theorem pwFc_X8_drawn : pwChkC pwM_X8_drawn = true := by decide +kernel
theorem pwFc_X8_chosen : pwChkC pwM_X8_chosen = true := by decide +kernel
theorem pwFc_X8_leave : pwChkC pwM_X8_leave = true := by decide +kernel
theorem pwFc_X8_walk : pwChkC pwM_X8_walk = true := by decide +kernel
theorem pwFc_X8_pass : pwChkC pwM_X8_pass = true := by decide +kernel
theorem pwFc_X8_setOut : pwChkC pwM_X8_setOut = true := by decide +kernel
theorem pwFc_X8_tick : pwChkC pwM_X8_tick = true := by decide +kernel
theorem pwFc_X8_goTicks : pwChkC pwM_X8_goTicks = true := by decide +kernel
theorem pwFc_X8_goWalker : pwChkC pwM_X8_goWalker = true := by decide +kernel
theorem pwFc_X8_canStreet : pwChkC pwM_X8_canStreet = true := by decide +kernel
theorem pwFc_X8_goStreet : pwChkC pwM_X8_goStreet = true := by decide +kernel
theorem pwFc_X8_put : pwChkC pwM_X8_put = true := by decide +kernel
theorem pwFc_X8_canExchange : pwChkC pwM_X8_canExchange = true := by decide +kernel
theorem pwFc_X8_goExchange : pwChkC pwM_X8_goExchange = true := by decide +kernel
theorem pwFc_X8_goBack : pwChkC pwM_X8_goBack = true := by decide +kernel
theorem pwFc_X8_goIn : pwChkC pwM_X8_goIn = true := by decide +kernel
theorem pwFc_X8_remember : pwChkC pwM_X8_remember = true := by decide +kernel
theorem pwFc_X8_append : pwChkC pwM_X8_append = true := by decide +kernel
theorem pwFc_X8_clearText : pwChkC pwM_X8_clearText = true := by decide +kernel
theorem pwFc_X8_here : pwChkC pwM_X8_here = true := by decide +kernel
theorem pwFc_X8_take : pwChkC pwM_X8_take = true := by decide +kernel
theorem pwFc_X8_digit : pwChkC pwM_X8_digit = true := by decide +kernel
theorem pwFc_X8_two : pwChkC pwM_X8_two = true := by decide +kernel
theorem pwFc_X8_goes : pwChkC pwM_X8_goes = true := by decide +kernel
theorem pwFc_X8_readWalker : pwChkC pwM_X8_readWalker = true := by decide +kernel
theorem pwFc_X8_readStreet : pwChkC pwM_X8_readStreet = true := by decide +kernel
theorem pwFc_X8_readExchange : pwChkC pwM_X8_readExchange = true := by decide +kernel
theorem pwFc_X8_readNumber : pwChkC pwM_X8_readNumber = true := by decide +kernel
theorem pwFc_X8_readCommand : pwChkC pwM_X8_readCommand = true := by decide +kernel
theorem pwFc_X8_readAll : pwChkC pwM_X8_readAll = true := by decide +kernel
theorem pwFc_X8_errorPosition : pwChkC pwM_X8_errorPosition = true := by decide +kernel
theorem pwFc_X8_load : pwChkC pwM_X8_load = true := by decide +kernel
theorem pwFc_X8_about : pwChkC pwM_X8_about = true := by decide +kernel
theorem pwFc_X8_placeInFile : pwChkC pwM_X8_placeInFile = true := by decide +kernel
theorem pwFc_X8_walkerOf : pwChkC pwM_X8_walkerOf = true := by decide +kernel
theorem pwFc_X8_readWrong : pwChkC pwM_X8_readWrong = true := by decide +kernel
theorem pwFc_X8_streetOf : pwChkC pwM_X8_streetOf = true := by decide +kernel
theorem pwFc_X8_cell : pwChkC pwM_X8_cell = true := by decide +kernel
theorem pwFc_X8_file : pwChkC pwM_X8_file = true := by decide +kernel
theorem pwFc_X8_read : pwChkC pwM_X8_read = true := by decide +kernel
theorem pwFc_X8_walker : pwChkC pwM_X8_walker = true := by decide +kernel
theorem pwFc_X8_street : pwChkC pwM_X8_street = true := by decide +kernel
theorem pwFc_X8_shift : pwChkC pwM_X8_shift = true := by decide +kernel
theorem pwFc_X8_letter : pwChkC pwM_X8_letter = true := by decide +kernel
theorem pwFc_X8_exchange : pwChkC pwM_X8_exchange = true := by decide +kernel
theorem pwFc_X8_back : pwChkC pwM_X8_back = true := by decide +kernel
theorem pwFc_X8_set : pwChkC pwM_X8_set = true := by decide +kernel
theorem pwFc_X8_ticks : pwChkC pwM_X8_ticks = true := by decide +kernel
theorem pwFc_X8_undo : pwChkC pwM_X8_undo = true := by decide +kernel
theorem pwFc_X8_allIn : pwChkC pwM_X8_allIn = true := by decide +kernel
theorem pwFc_X8_later : pwChkC pwM_X8_later = true := by decide +kernel
theorem pwFc_X8_bestRule : pwChkC pwM_X8_bestRule = true := by decide +kernel
theorem pwFc_X8_bestShift : pwChkC pwM_X8_bestShift = true := by decide +kernel
theorem pwFc_X8_bestExchange : pwChkC pwM_X8_bestExchange = true := by decide +kernel
theorem pwFc_X8_runTicks : pwChkC pwM_X8_runTicks = true := by decide +kernel
theorem pwFc_X8_runExchange : pwChkC pwM_X8_runExchange = true := by decide +kernel
theorem pwFc_X8_runShift : pwChkC pwM_X8_runShift = true := by decide +kernel
theorem pwFc_X8_runSet : pwChkC pwM_X8_runSet = true := by decide +kernel
theorem pwFc_X8_isAt : pwChkC pwM_X8_isAt = true := by decide +kernel
theorem pwFc_X8_command : pwChkC pwM_X8_command = true := by decide +kernel
theorem pwFc_X8_runScript : pwChkC pwM_X8_runScript = true := by decide +kernel
theorem pwFc_X8_stir : pwChkC pwM_X8_stir = true := by decide +kernel
theorem pwFc_X8_simulate : pwChkC pwM_X8_simulate = true := by decide +kernel
theorem pwFc_X8_save : pwChkC pwM_X8_save = true := by decide +kernel
theorem pwFc_X8_restore : pwChkC pwM_X8_restore = true := by decide +kernel
theorem pwFc_L_append : pwChkC pwM_L_append = true := by decide +kernel
theorem pwFc_L_load : pwChkC pwM_L_load = true := by decide +kernel
theorem pwFc_L_about : pwChkC pwM_L_about = true := by decide +kernel
theorem pwFc_L_walkerOf : pwChkC pwM_L_walkerOf = true := by decide +kernel
theorem pwFc_L_streetOf : pwChkC pwM_L_streetOf = true := by decide +kernel
theorem pwFc_L_cell : pwChkC pwM_L_cell = true := by decide +kernel
theorem pwFc_L_file : pwChkC pwM_L_file = true := by decide +kernel
theorem pwFc_L_read : pwChkC pwM_L_read = true := by decide +kernel
theorem pwFc_L_walker : pwChkC pwM_L_walker = true := by decide +kernel
theorem pwFc_L_street : pwChkC pwM_L_street = true := by decide +kernel
theorem pwFc_L_shift : pwChkC pwM_L_shift = true := by decide +kernel
theorem pwFc_L_letter : pwChkC pwM_L_letter = true := by decide +kernel
theorem pwFc_L_exchange : pwChkC pwM_L_exchange = true := by decide +kernel
theorem pwFc_L_set : pwChkC pwM_L_set = true := by decide +kernel
theorem pwFc_L_ticks : pwChkC pwM_L_ticks = true := by decide +kernel
theorem pwFc_L_undo : pwChkC pwM_L_undo = true := by decide +kernel
theorem pwFc_L_later : pwChkC pwM_L_later = true := by decide +kernel
theorem pwFc_L_bestShift : pwChkC pwM_L_bestShift = true := by decide +kernel
theorem pwFc_L_bestExchange : pwChkC pwM_L_bestExchange = true := by decide +kernel
theorem pwFc_L_runScript : pwChkC pwM_L_runScript = true := by decide +kernel
theorem pwFc_L_simulate : pwChkC pwM_L_simulate = true := by decide +kernel
theorem pwFc_L_save : pwChkC pwM_L_save = true := by decide +kernel
theorem pwFc_L_restore : pwChkC pwM_L_restore = true := by decide +kernel
