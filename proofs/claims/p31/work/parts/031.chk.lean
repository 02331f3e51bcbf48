/-! what the tables' entries owe, decided by the kernel -/
def pwGw : List Jvm.Cond := lw_tbl.filter goodWord
def pwTk : List (List Jvm.Cond) := [tables_1_1, tables_1_2, tables_1_3, tables_1_4, tables_1_5]
def pwTb (i : Nat) : Option Jvm.Cond := bif Nat.blt i 23 then (k2_sels lw_privs)[i]? else (pwTk[(i - 23) / 240]?).bind fun l => l[(i - 23) % 240]?
theorem pwTb_mem {i : Nat} {w : Jvm.Cond} (h : pwTb i = some w) : w ∈ lw_tbl := by
  unfold pwTb at h
  cases hb : Nat.blt i 23 with
  | true => rw [hb] at h; exact List.mem_append_left _ (List.mem_of_getElem? h)
  | false =>
    rw [hb] at h
    obtain ⟨l, hl, h1⟩ := Option.bind_eq_some_iff.mp h
    have hw := List.mem_of_getElem? h1
    refine List.mem_append_right _ ?_
    have hm : l ∈ pwTk := List.mem_of_getElem? hl
    simp only [pwTk, List.mem_cons, List.not_mem_nil, or_false] at hm
    show w ∈ tables_1_1 ++ (tables_1_2 ++ (tables_1_3 ++ (tables_1_4 ++ tables_1_5)))
    simp only [List.mem_append]
    rcases hm with rfl | rfl | rfl | rfl | rfl
    · exact Or.inl hw
    · exact Or.inr (Or.inl hw)
    · exact Or.inr (Or.inr (Or.inl hw))
    · exact Or.inr (Or.inr (Or.inr (Or.inl hw)))
    · exact Or.inr (Or.inr (Or.inr (Or.inr hw)))
def pwIn0 (i : Nat) (w : Jvm.Cond) : Bool := decide (pwTb i = some w)
theorem pwIn0_mem {i : Nat} {w : Jvm.Cond} (h : pwIn0 i w = true) : w ∈ lw_tbl := pwTb_mem (of_decide_eq_true h)
def pwIn (i : Nat) (w : Jvm.Cond) : Bool := decide (pwTb i = some w) && goodWord w
theorem pwIn_mem {i : Nat} {w : Jvm.Cond} (h : pwIn i w = true) : w ∈ pwGw := by
  simp only [pwIn, Bool.and_eq_true, decide_eq_true_eq] at h
  exact List.mem_filter.mpr ⟨pwTb_mem h.1, h.2⟩
def pwLink (own : String) (i : Nat) (y : MethodName) (r : pwRP) : Bool := bif Nat.beq r.2.1 0 then pwIn (23 + r.2.2.1.toNat) (.methodLink own i y) else pwIn0 (23 + r.2.2.1.toNat) (.methodLinkNest own i y "PlacardWalkers")
def pwRoom (mt mc : pwMT) : Bool := Nat.ble (mc.2.2.1.1 + 1) mt.2.2.1.1 && Nat.ble (8 + (mc.2.1.1 + 11) + mc.2.2.1.2.1) mt.2.2.1.2.1
def pwExN : List Nat := [54, 65, 117]
def pwExR : List String := ["java/lang/RuntimeException", "java/lang/Exception"]
def pwChkL (mt : pwMT) (pc : Nat) (x : Instr) (len : Nat) (r : pwRP) : Bool := match x with
  | .getfield i => Nat.beq len 3 && (match pwCl[r.1]? with
    | some q => Nat.blt r.2.1 q.2.2 && pwIn (23 + r.2.2.1.toNat) (.fieldLink mt.1.1 i (q.2.1 r.2.1).1 (q.2.1 r.2.1).2.1 (q.2.1 r.2.1).2.2.1)
    | none => false)
  | .putfield i => Nat.beq len 3 && (match pwCl[r.1]? with
    | some q => Nat.blt r.2.1 q.2.2 && pwIn (23 + r.2.2.1.toNat) (.fieldLink mt.1.1 i (q.2.1 r.2.1).1 (q.2.1 r.2.1).2.1 (q.2.1 r.2.1).2.2.1) && (bif (q.2.1 r.2.1).2.2.2 then decide (mt.1.2.1.name = "<init>" ∧ (q.2.1 r.2.1).1 = mt.1.1) else true)
    | none => false)
  | .getstatic i => Nat.beq len 3 && (match pwSt[r.1]? with
    | some n => pwIn (23 + r.2.2.1.toNat) (.fieldLink mt.1.1 i pwR_X6 n "[I")
    | none => false)
  | .invokevirtual i => Nat.beq len 3 && (match pwMeth r.1 with
    | some mc => Nat.beq r.2.1 0 && pwLink mt.1.1 i mc.1.2.1 r && pwRoom mt mc
    | none => false)
  | .invokespecial i => Nat.beq len 3 && (bif Nat.beq r.1 1000 then pwIn (23 + r.2.2.1.toNat) (.methodLink mt.1.1 i objectInit) && Nat.ble 1 mt.2.2.1.1 && Nat.ble 20 mt.2.2.1.2.1 else (match pwMeth r.1 with
    | some mc => pwLink mt.1.1 i mc.1.2.1 r && pwRoom mt mc && decide (mc.1.2.1.name = "<init>")
    | none => bif Nat.beq r.1 1900 then true else false))
  | .invokestatic i => Nat.beq len 3 && (bif Nat.beq r.1 1001 then pwIn (23 + r.2.2.1.toNat) (.methodLink mt.1.1 i Lib.Math.min.name) && Nat.ble 1 mt.2.2.1.1 && Nat.ble 21 mt.2.2.1.2.1
    else bif Nat.beq r.1 1002 then pwIn (23 + r.2.2.1.toNat) (.methodLink mt.1.1 i Lib.Math.max.name) && Nat.ble 1 mt.2.2.1.1 && Nat.ble 21 mt.2.2.1.2.1
    else bif Nat.beq r.1 1003 then pwIn (23 + r.2.2.1.toNat) (.methodLink mt.1.1 i arraycopyName) && Nat.ble 1 mt.2.2.1.1 && Nat.ble (8 + (nativeFrameWords "java/lang/System" "arraycopy" 5 + 11)) mt.2.2.1.2.1
    else (match pwMeth r.1 with
    | some mc => pwLink mt.1.1 i mc.1.2.1 r && pwRoom mt mc
    | none => false))
  | .ldc i => bif Nat.beq r.2.1 0 then Nat.beq len 2 && pwIn (23 + r.1) (.constant mt.1.1 i (Int32.ofInt r.2.2.1)) else true
  | .ldc_w i => bif Nat.beq r.2.1 0 then Nat.beq len 3 && pwIn (23 + r.1) (.constant mt.1.1 i (Int32.ofInt r.2.2.1)) else true
  | .ldc2_w i => Nat.beq len 3 && pwIn (23 + r.1) (.constantLong mt.1.1 i (Int64.ofInt r.2.2.1))
  | .new i => Nat.beq len 3 && (bif Nat.ble 100 r.1 then (match pwEx[r.1 - 100]?, pwExN[r.1 - 100]?, r.2.2.2 with
      | some E, some ic, [(is, ps), (ic2, _)] => decide (mt.1.1 = pwR_X7 ∧ ic2 = Int32.ofNat ic ∧ mt.2.2.2.1 = []) && pwIn (23 + r.2.2.1.toNat) (.classLink mt.1.1 i E) && Nat.ble 6 mt.2.2.1.1 && Nat.ble 90 mt.2.2.1.2.1
          && (match pwTb (23 + ps) with
            | some (.stringRef o k _) => decide (o = mt.1.1 ∧ is = Int32.ofNat k ∧ decode mt.1.2.2 (pc + 3) = .ok (.dup, 1) ∧ ((decode mt.1.2.2 (pc + 4) = .ok (.ldc k, 2) ∧ decode mt.1.2.2 (pc + 6) = .ok (.invokespecial ic, 3) ∧ decode mt.1.2.2 (pc + 9) = .ok (.athrow, 1) ∧ r.2.1 = 0) ∨ (decode mt.1.2.2 (pc + 4) = .ok (.ldc_w k, 3) ∧ decode mt.1.2.2 (pc + 7) = .ok (.invokespecial ic, 3) ∧ decode mt.1.2.2 (pc + 10) = .ok (.athrow, 1) ∧ r.2.1 = 1)))
            | _ => false)
      | _, _, _ => false)
    else (match pwCl[r.1]? with
    | some q => pwIn (23 + r.2.2.1.toNat) (.classLink mt.1.1 i q.1)
    | none => false))
  | .anewarray i => Nat.beq len 3 && pwIn (23 + r.2.2.1.toNat) (.classLink mt.1.1 i pwR_X5)
  | .goto o => Nat.beq len 3 && decide ((pc : Int) + o = (r.1 : Int))
  | .ifCond _ o => Nat.beq len 3 && decide ((pc : Int) + o = (r.1 : Int))
  | .if_icmp _ o => Nat.beq len 3 && decide ((pc : Int) + o = (r.1 : Int))
  | .ifnull o => Nat.beq len 3 && decide ((pc : Int) + o = (r.1 : Int))
  | .ifnonnull o => Nat.beq len 3 && decide ((pc : Int) + o = (r.1 : Int))
  | .tableswitch d lo hi offs => decide ((pc : Int) + d = (r.1 : Int)) && decide (lo + (offs.size : Int) = hi + 1 ∧ -1000 ≤ lo ∧ hi ≤ 1000) && decide (r.2.2.2 = (List.range offs.size).map fun (j : Nat) => (Int32.ofInt (lo + (j : Int)), ((pc : Int) + offs.getD j 0).toNat)) && (List.range offs.size).all fun (j : Nat) => decide (0 ≤ (pc : Int) + offs.getD j 0)
  | .lookupswitch d ps => decide ((pc : Int) + d = (r.1 : Int)) && decide (r.2.2.2 = ps.toList.map fun q => (Int32.ofInt q.1, ((pc : Int) + q.2).toNat)) && ps.toList.all (fun q => decide (-1000 ≤ q.1 ∧ q.1 ≤ 1000 ∧ 0 ≤ (pc : Int) + q.2)) && (ps.toList.zip (ps.toList.drop 1)).all (fun (a, next) => a.1 < next.1)
  | .iload_n _ => Nat.beq len 1
  | .lload_n _ => Nat.beq len 1
  | .aload_n _ => Nat.beq len 1
  | .istore_n _ => Nat.beq len 1
  | .lstore_n _ => Nat.beq len 1
  | .astore_n _ => Nat.beq len 1
  | .iload _ => Nat.beq len 2
  | .lload _ => Nat.beq len 2
  | .aload _ => Nat.beq len 2
  | .istore _ => Nat.beq len 2
  | .lstore _ => Nat.beq len 2
  | .astore _ => Nat.beq len 2
  | .iinc _ _ => Nat.beq len 3
  | .bipush _ => Nat.beq len 2
  | .sipush _ => Nat.beq len 3
  | .newarray t => Nat.beq len 2 && (match t with
    | .int => true
    | _ => false)
  | _ => Nat.beq len 1
def pwChkE (mt : pwMT) (e : pwE) : Bool := decide (decode mt.1.2.2 e.1 = .ok (e.2.1, e.2.2.1)) && pwChkL mt e.1 e.2.1 e.2.2.1 e.2.2.2
def pwChkC (mt : pwMT) : Bool := mt.2.2.2.2.all fun c => c.2.all (pwChkE mt)
/-- what a callee's tables owe: kind (0 static, 1 virtual, 2 init) and places of its words -/
def pwChkM (mt : pwMT) (q : Nat × Nat × Nat × Nat × Nat) : Bool := plainName mt.1.2.1.cls && decide (mt.1.2.1.cls = mt.1.1 ∧ mt.1.1 ≠ "java/lang/invoke/MethodHandle" ∧ mt.1.1 ≠ "java/lang/invoke/VarHandle" ∧ (parseMethodDescriptor mt.1.2.1.desc).map (fun d => d.parameters.length) = some mt.2.1.2.2)
  && (match mt.2.2.2.1 with
    | [] => pwIn q.2.1 (.code mt.1.2.1 mt.1.2.2 mt.2.1.1 mt.2.1.2.1)
    | hh => pwIn q.2.1 (.codeWith mt.1.2.1 mt.1.2.2 mt.2.1.1 mt.2.1.2.1 hh)) && pwIn q.2.2.2.2 (.initialized mt.1.1)
  && (bif Nat.beq q.1 0 then pwIn q.2.2.1 (.static mt.1.2.1) else pwIn q.2.2.1 (.instanceMethod mt.1.2.1) && decide ((pwCl[mt.2.2.1.2.2]?).map (fun c => c.1) = some mt.1.1) && (bif Nat.beq q.1 1 then pwIn q.2.2.2.1 (.selects mt.1.1 mt.1.2.1 mt.1.2.1) else decide (mt.1.2.1.name = "<init>")))

theorem pwChkQ {mt : pwMT} {q : Nat × Nat × Nat × Nat × Nat} (h0 : mt.2.2.2.1 = []) (hc : pwTb q.2.1 = some (.code mt.1.2.1 mt.1.2.2 mt.2.1.1 mt.2.1.2.1)) (hg : goodWord (.code mt.1.2.1 mt.1.2.2 mt.2.1.1 mt.2.1.2.1) = true) (h1 : (plainName mt.1.2.1.cls && decide (mt.1.2.1.cls = mt.1.1 ∧ mt.1.1 ≠ "java/lang/invoke/MethodHandle" ∧ mt.1.1 ≠ "java/lang/invoke/VarHandle" ∧ (parseMethodDescriptor mt.1.2.1.desc).map (fun d => d.parameters.length) = some mt.2.1.2.2)) = true) (h2 : pwIn q.2.2.2.2 (.initialized mt.1.1) = true) (h3 : (bif Nat.beq q.1 0 then pwIn q.2.2.1 (.static mt.1.2.1) else pwIn q.2.2.1 (.instanceMethod mt.1.2.1) && decide ((pwCl[mt.2.2.1.2.2]?).map (fun c => c.1) = some mt.1.1) && (bif Nat.beq q.1 1 then pwIn q.2.2.2.1 (.selects mt.1.1 mt.1.2.1 mt.1.2.1) else decide (mt.1.2.1.name = "<init>"))) = true) : pwChkM mt q = true := by
  have h4 : pwIn q.2.1 (.code mt.1.2.1 mt.1.2.2 mt.2.1.1 mt.2.1.2.1) = true := by
    unfold pwIn
    rw [hc, hg, decide_eq_true rfl]; rfl
  unfold pwChkM
  rw [h0]
  dsimp only
  rw [h1, h4, h2, h3]
  rfl
theorem pwFm_X0_init : pwChkM pwM_X0_init (2, 177, 176, 0, 29) = true := by decide +kernel
theorem pwFm_X0_forgetAll : pwChkM pwM_X0_forgetAll (1, 368, 366, 367, 29) = true := by decide +kernel
theorem pwFm_X0_remember : pwChkM pwM_X0_remember (1, 760, 758, 759, 29) = true := by decide +kernel
theorem pwFm_X0_takeBack : pwChkM pwM_X0_takeBack (1, 991, 989, 990, 29) = true := by decide +kernel
theorem pwFm_X0_stateAt : pwChkM pwM_X0_stateAt (1, 764, 763, 20, 29) = true := by decide +kernel
theorem pwFm_X1_init : pwChkM pwM_X1_init (2, 167, 166, 0, 28) = true := by decide +kernel
theorem pwFm_X1_numberOf : pwChkM pwM_X1_numberOf (1, 630, 628, 629, 28) = true := by decide +kernel
theorem pwFm_X1_longestRise : pwChkM pwM_X1_longestRise (1, 647, 646, 16, 28) = true := by decide +kernel
theorem pwFm_X1_rightLetters : pwChkM pwM_X1_rightLetters (1, 660, 659, 17, 28) = true := by decide +kernel
theorem pwFm_X1_mendingExchanges : pwChkM pwM_X1_mendingExchanges (1, 668, 667, 18, 28) = true := by decide +kernel
theorem pwFm_X2_groupFromEnd : pwChkM pwM_X2_groupFromEnd (0, 900, 899, 0, 38) = true := by decide +kernel
theorem pwFm_X2_succeeds : pwChkM pwM_X2_succeeds (0, 906, 905, 0, 38) = true := by decide +kernel
theorem pwFm_X2_hasZerosInPlace : pwChkM pwM_X2_hasZerosInPlace (0, 909, 908, 0, 38) = true := by decide +kernel
theorem pwFm_X3_init : pwChkM pwM_X3_init (2, 197, 196, 0, 30) = true := by decide +kernel
theorem pwFm_X4_init : pwChkM pwM_X4_init (2, 88, 87, 0, 27) = true := by decide +kernel
theorem pwFm_X4_isStreet : pwChkM pwM_X4_isStreet (0, 404, 403, 0, 27) = true := by decide +kernel
theorem pwFm_X4_isShift : pwChkM pwM_X4_isShift (0, 437, 436, 0, 27) = true := by decide +kernel
theorem pwFm_X4_exists : pwChkM pwM_X4_exists (1, 434, 432, 433, 27) = true := by decide +kernel
theorem pwFm_X4_isFull : pwChkM pwM_X4_isFull (1, 412, 410, 411, 27) = true := by decide +kernel
theorem pwFm_X4_removeAll : pwChkM pwM_X4_removeAll (1, 364, 362, 363, 27) = true := by decide +kernel
theorem pwFm_X4_become : pwChkM pwM_X4_become (1, 575, 573, 574, 27) = true := by decide +kernel
theorem pwFm_X4_addStreet : pwChkM pwM_X4_addStreet (1, 425, 423, 424, 27) = true := by decide +kernel
theorem pwFm_X4_cellsOf : pwChkM pwM_X4_cellsOf (1, 534, 532, 533, 27) = true := by decide +kernel
theorem pwFm_X4_greenOf : pwChkM pwM_X4_greenOf (1, 701, 699, 700, 27) = true := by decide +kernel
theorem pwFm_X4_redOf : pwChkM pwM_X4_redOf (1, 705, 703, 704, 27) = true := by decide +kernel
theorem pwFm_X4_shiftOf : pwChkM pwM_X4_shiftOf (1, 709, 707, 708, 27) = true := by decide +kernel
theorem pwFm_X4_widthOf : pwChkM pwM_X4_widthOf (1, 530, 528, 529, 27) = true := by decide +kernel
theorem pwFm_X4_changeShift : pwChkM pwM_X4_changeShift (1, 441, 439, 440, 27) = true := by decide +kernel
theorem pwFm_X4_isGreen : pwChkM pwM_X4_isGreen (1, 496, 494, 495, 27) = true := by decide +kernel
theorem pwFm_X4_noteReader : pwChkM pwM_X4_noteReader (1, 522, 520, 521, 27) = true := by decide +kernel
theorem pwFm_X4_forgetReaders : pwChkM pwM_X4_forgetReaders (1, 923, 921, 922, 27) = true := by decide +kernel
theorem pwFm_X4_readCountOf : pwChkM pwM_X4_readCountOf (1, 717, 715, 716, 27) = true := by decide +kernel
theorem pwFm_X4_readAt : pwChkM pwM_X4_readAt (1, 734, 732, 733, 27) = true := by decide +kernel
theorem pwFm_X4_pairsReadFalling : pwChkM pwM_X4_pairsReadFalling (1, 721, 719, 720, 27) = true := by decide +kernel
theorem pwFm_X5_init : pwChkM pwM_X5_init (2, 82, 81, 0, 26) = true := by decide +kernel
theorem pwFm_X5_isLetter : pwChkM pwM_X5_isLetter (0, 384, 383, 0, 26) = true := by decide +kernel
theorem pwFm_X5_isSetting : pwChkM pwM_X5_isSetting (0, 449, 448, 0, 26) = true := by decide +kernel
theorem pwFm_X5_isTicks : pwChkM pwM_X5_isTicks (0, 484, 483, 0, 26) = true := by decide +kernel
theorem pwFm_X5_makeNew : pwChkM pwM_X5_makeNew (1, 360, 358, 359, 26) = true := by decide +kernel
theorem pwFm_X5_become : pwChkM pwM_X5_become (1, 571, 569, 570, 26) = true := by decide +kernel
theorem pwFm_X5_hasWalker : pwChkM pwM_X5_hasWalker (1, 461, 459, 460, 26) = true := by decide +kernel
theorem pwFm_X5_hasPlace : pwChkM pwM_X5_hasPlace (1, 778, 776, 777, 26) = true := by decide +kernel
theorem pwFm_X5_isFull : pwChkM pwM_X5_isFull (1, 388, 386, 387, 26) = true := by decide +kernel
theorem pwFm_X5_mayGrow : pwChkM pwM_X5_mayGrow (1, 408, 406, 407, 26) = true := by decide +kernel
theorem pwFm_X5_walkerAt : pwChkM pwM_X5_walkerAt (1, 651, 649, 650, 26) = true := by decide +kernel
theorem pwFm_X5_letterOf : pwChkM pwM_X5_letterOf (1, 664, 662, 663, 26) = true := by decide +kernel
theorem pwFm_X5_placeOf : pwChkM pwM_X5_placeOf (1, 473, 471, 472, 26) = true := by decide +kernel
theorem pwFm_X5_standingOf : pwChkM pwM_X5_standingOf (1, 469, 467, 468, 26) = true := by decide +kernel
theorem pwFm_X5_hasCome : pwChkM pwM_X5_hasCome (1, 465, 463, 464, 26) = true := by decide +kernel
theorem pwFm_X5_come : pwChkM pwM_X5_come (1, 416, 414, 415, 26) = true := by decide +kernel
theorem pwFm_X5_allHaveCome : pwChkM pwM_X5_allHaveCome (1, 867, 865, 866, 26) = true := by decide +kernel
theorem pwFm_X5_countStanding : pwChkM pwM_X5_countStanding (1, 634, 632, 633, 26) = true := by decide +kernel
theorem pwFm_X5_countOnStreet : pwChkM pwM_X5_countOnStreet (1, 713, 712, 19, 26) = true := by decide +kernel
theorem pwFm_X5_walkerInCell : pwChkM pwM_X5_walkerInCell (1, 747, 745, 746, 26) = true := by decide +kernel
theorem pwFm_X5_isInCell : pwChkM pwM_X5_isInCell (1, 500, 499, 8, 26) = true := by decide +kernel
theorem pwFm_X5_wrongPairs : pwChkM pwM_X5_wrongPairs (1, 639, 637, 638, 26) = true := by decide +kernel
theorem pwFm_X5_numberOfWalker : pwChkM pwM_X5_numberOfWalker (1, 683, 681, 682, 26) = true := by decide +kernel
theorem pwFm_X5_numberOfStreet : pwChkM pwM_X5_numberOfStreet (1, 697, 695, 696, 26) = true := by decide +kernel
theorem pwFm_X5_addWalker : pwChkM pwM_X5_addWalker (1, 392, 390, 391, 26) = true := by decide +kernel
theorem pwFm_X5_changeLetter : pwChkM pwM_X5_changeLetter (1, 815, 813, 814, 26) = true := by decide +kernel
theorem pwFm_X5_swapWalkers : pwChkM pwM_X5_swapWalkers (1, 829, 827, 828, 26) = true := by decide +kernel
theorem pwFm_X5_sendBack : pwChkM pwM_X5_sendBack (1, 918, 916, 917, 26) = true := by decide +kernel
theorem pwFm_X5_changeSetting : pwChkM pwM_X5_changeSetting (1, 453, 451, 452, 26) = true := by decide +kernel
theorem pwFm_X5_triesWalker : pwChkM pwM_X5_triesWalker (1, 381, 379, 380, 26) = true := by decide +kernel
theorem pwFm_X5_triesStreet : pwChkM pwM_X5_triesStreet (1, 401, 399, 400, 26) = true := by decide +kernel
theorem pwFm_X5_triesShift : pwChkM pwM_X5_triesShift (1, 430, 428, 429, 26) = true := by decide +kernel
theorem pwFm_X5_triesExchange : pwChkM pwM_X5_triesExchange (1, 457, 455, 456, 26) = true := by decide +kernel
theorem pwFm_X5_triesSetting : pwChkM pwM_X5_triesSetting (1, 446, 444, 445, 26) = true := by decide +kernel
theorem pwFm_X5_triesTicks : pwChkM pwM_X5_triesTicks (1, 481, 479, 480, 26) = true := by decide +kernel
theorem pwFm_X5_ticksUntilAllIn : pwChkM pwM_X5_ticksUntilAllIn (1, 878, 876, 877, 26) = true := by decide +kernel
theorem pwFm_X5_runWhileAnyoneWalks : pwChkM pwM_X5_runWhileAnyoneWalks (1, 863, 861, 862, 26) = true := by decide +kernel
theorem pwFm_X5_tick : pwChkM pwM_X5_tick (1, 488, 486, 487, 26) = true := by decide +kernel
theorem pwFm_X5_endOf : pwChkM pwM_X5_endOf (1, 420, 419, 5, 26) = true := by decide +kernel
theorem pwFm_X5_mayLeave : pwChkM pwM_X5_mayLeave (1, 492, 491, 7, 26) = true := by decide +kernel
theorem pwFm_X5_leave : pwChkM pwM_X5_leave (1, 514, 513, 11, 26) = true := by decide +kernel
theorem pwFm_X5_leavingPlace : pwChkM pwM_X5_leavingPlace (1, 504, 503, 9, 26) = true := by decide +kernel
theorem pwFm_X5_lowestPlace : pwChkM pwM_X5_lowestPlace (1, 508, 507, 10, 26) = true := by decide +kernel
theorem pwFm_X5_bringForward : pwChkM pwM_X5_bringForward (1, 518, 517, 12, 26) = true := by decide +kernel
theorem pwFm_X5_joinsCrowd : pwChkM pwM_X5_joinsCrowd (1, 526, 525, 13, 26) = true := by decide +kernel
theorem pwFm_X5_moveOn : pwChkM pwM_X5_moveOn (1, 538, 537, 14, 26) = true := by decide +kernel
theorem pwFm_X5_mix : pwChkM pwM_X5_mix (1, 542, 541, 15, 26) = true := by decide +kernel
theorem pwFm_X5_swapPlaces : pwChkM pwM_X5_swapPlaces (1, 477, 476, 6, 26) = true := by decide +kernel
theorem pwFm_X5_stand : pwChkM pwM_X5_stand (1, 397, 396, 4, 26) = true := by decide +kernel
theorem pwFm_X6_init : pwChkM pwM_X6_init (2, 52, 51, 0, 25) = true := by decide +kernel
theorem pwFm_X6_isFull : pwChkM pwM_X6_isFull (1, 962, 960, 961, 25) = true := by decide +kernel
theorem pwFm_X6_addSign : pwChkM pwM_X6_addSign (1, 967, 965, 966, 25) = true := by decide +kernel
theorem pwFm_X6_emptied : pwChkM pwM_X6_emptied (1, 1018, 1016, 1017, 25) = true := by decide +kernel
theorem pwFm_X6_firstError : pwChkM pwM_X6_firstError (1, 247, 245, 246, 25) = true := by decide +kernel
theorem pwFm_X6_beginReading : pwChkM pwM_X6_beginReading (1, 254, 252, 253, 25) = true := by decide +kernel
theorem pwFm_X6_endsCommand : pwChkM pwM_X6_endsCommand (1, 373, 371, 372, 25) = true := by decide +kernel
theorem pwFm_X6_takes : pwChkM pwM_X6_takes (1, 258, 257, 0, 25) = true := by decide +kernel
theorem pwFm_X6_takesLetter : pwChkM pwM_X6_takesLetter (1, 262, 261, 1, 25) = true := by decide +kernel
theorem pwFm_X6_rangesOf : pwChkM pwM_X6_rangesOf (0, 265, 264, 0, 25) = true := by decide +kernel
theorem pwFm_X6_takesNumberSign : pwChkM pwM_X6_takesNumberSign (1, 285, 284, 2, 25) = true := by decide +kernel
theorem pwFm_X6_carriesOut : pwChkM pwM_X6_carriesOut (1, 377, 375, 376, 25) = true := by decide +kernel
theorem pwFm_X7_init : pwChkM pwM_X7_init (2, 44, 43, 0, 24) = true := by decide +kernel
theorem pwFm_X7_append : pwChkM pwM_X7_append (1, 957, 955, 956, 24) = true := by decide +kernel
theorem pwFm_X7_clearText : pwChkM pwM_X7_clearText (1, 1014, 1012, 1013, 24) = true := by decide +kernel
theorem pwFm_X7_errorPosition : pwChkM pwM_X7_errorPosition (1, 1006, 1004, 1005, 24) = true := by decide +kernel
theorem pwFm_X7_load : pwChkM pwM_X7_load (1, 243, 241, 242, 24) = true := by decide +kernel
theorem pwFm_X7_about : pwChkM pwM_X7_about (1, 610, 608, 609, 24) = true := by decide +kernel
theorem pwFm_X7_walkerOf : pwChkM pwM_X7_walkerOf (1, 676, 674, 675, 24) = true := by decide +kernel
theorem pwFm_X7_streetOf : pwChkM pwM_X7_streetOf (1, 690, 688, 689, 24) = true := by decide +kernel
theorem pwFm_X7_cell : pwChkM pwM_X7_cell (1, 741, 739, 740, 24) = true := by decide +kernel
theorem pwFm_X7_file : pwChkM pwM_X7_file (1, 774, 772, 773, 24) = true := by decide +kernel
theorem pwFm_X7_read : pwChkM pwM_X7_read (1, 729, 727, 728, 24) = true := by decide +kernel
theorem pwFm_X7_walker : pwChkM pwM_X7_walker (1, 787, 785, 786, 24) = true := by decide +kernel
theorem pwFm_X7_street : pwChkM pwM_X7_street (1, 799, 797, 798, 24) = true := by decide +kernel
theorem pwFm_X7_shift : pwChkM pwM_X7_shift (1, 754, 752, 753, 24) = true := by decide +kernel
theorem pwFm_X7_letter : pwChkM pwM_X7_letter (1, 811, 809, 810, 24) = true := by decide +kernel
theorem pwFm_X7_exchange : pwChkM pwM_X7_exchange (1, 822, 820, 821, 24) = true := by decide +kernel
theorem pwFm_X7_back : pwChkM pwM_X7_back (1, 1028, 1026, 1027, 24) = true := by decide +kernel
theorem pwFm_X7_set : pwChkM pwM_X7_set (1, 837, 835, 836, 24) = true := by decide +kernel
theorem pwFm_X7_ticks : pwChkM pwM_X7_ticks (1, 847, 845, 846, 24) = true := by decide +kernel
theorem pwFm_X7_undo : pwChkM pwM_X7_undo (1, 986, 984, 985, 24) = true := by decide +kernel
theorem pwFm_X7_allIn : pwChkM pwM_X7_allIn (1, 995, 993, 994, 24) = true := by decide +kernel
theorem pwFm_X7_later : pwChkM pwM_X7_later (1, 858, 856, 857, 24) = true := by decide +kernel
theorem pwFm_X7_bestRule : pwChkM pwM_X7_bestRule (1, 999, 997, 998, 24) = true := by decide +kernel
theorem pwFm_X7_bestShift : pwChkM pwM_X7_bestShift (1, 874, 872, 873, 24) = true := by decide +kernel
theorem pwFm_X7_bestExchange : pwChkM pwM_X7_bestExchange (1, 885, 883, 884, 24) = true := by decide +kernel
theorem pwFm_X7_gainOnTrial : pwChkM pwM_X7_gainOnTrial (1, 890, 889, 21, 24) = true := by decide +kernel
theorem pwFm_X7_runScript : pwChkM pwM_X7_runScript (1, 897, 895, 896, 24) = true := by decide +kernel
theorem pwFm_X7_simulate : pwChkM pwM_X7_simulate (1, 936, 934, 935, 24) = true := by decide +kernel
theorem pwFm_X7_takeTurn : pwChkM pwM_X7_takeTurn (1, 943, 942, 22, 24) = true := by decide +kernel
theorem pwFm_X7_save : pwChkM pwM_X7_save (1, 551, 549, 550, 24) = true := by decide +kernel
theorem pwFm_X7_restore : pwChkM pwM_X7_restore (1, 593, 591, 592, 24) = true := by decide +kernel
theorem pwFm_X7_at : pwChkM pwM_X7_at (0, 250, 249, 0, 24) = true := by decide +kernel
theorem pwFm_X7_put : pwChkM pwM_X7_put (0, 288, 287, 0, 24) = true := by decide +kernel
theorem pwFm_X7_copyRow : pwChkM pwM_X7_copyRow (0, 578, 577, 0, 24) = true := by decide +kernel
theorem pwFm_X7_pairsFalling : pwChkM pwM_X7_pairsFalling (0, 642, 641, 0, 24) = true := by decide +kernel
theorem pwFm_L_draw : pwChkM pwM_L_draw (0, 233, 232, 0, 23) = true := by decide +kernel
theorem pwFm_L_in : pwChkM pwM_L_in (0, 974, 973, 0, 23) = true := by decide +kernel
theorem pwFm_L_append : pwChkM pwM_L_append (0, 953, 952, 0, 23) = true := by decide +kernel
theorem pwFm_L_load : pwChkM pwM_L_load (0, 238, 237, 0, 23) = true := by decide +kernel
theorem pwFm_L_about : pwChkM pwM_L_about (0, 605, 604, 0, 23) = true := by decide +kernel
theorem pwFm_L_walkerOf : pwChkM pwM_L_walkerOf (0, 672, 671, 0, 23) = true := by decide +kernel
theorem pwFm_L_streetOf : pwChkM pwM_L_streetOf (0, 686, 685, 0, 23) = true := by decide +kernel
theorem pwFm_L_cell : pwChkM pwM_L_cell (0, 737, 736, 0, 23) = true := by decide +kernel
theorem pwFm_L_file : pwChkM pwM_L_file (0, 770, 769, 0, 23) = true := by decide +kernel
theorem pwFm_L_read : pwChkM pwM_L_read (0, 725, 724, 0, 23) = true := by decide +kernel
theorem pwFm_L_walker : pwChkM pwM_L_walker (0, 783, 782, 0, 23) = true := by decide +kernel
theorem pwFm_L_street : pwChkM pwM_L_street (0, 795, 794, 0, 23) = true := by decide +kernel
theorem pwFm_L_shift : pwChkM pwM_L_shift (0, 750, 749, 0, 23) = true := by decide +kernel
theorem pwFm_L_letter : pwChkM pwM_L_letter (0, 807, 806, 0, 23) = true := by decide +kernel
theorem pwFm_L_exchange : pwChkM pwM_L_exchange (0, 818, 817, 0, 23) = true := by decide +kernel
theorem pwFm_L_set : pwChkM pwM_L_set (0, 833, 832, 0, 23) = true := by decide +kernel
theorem pwFm_L_ticks : pwChkM pwM_L_ticks (0, 843, 842, 0, 23) = true := by decide +kernel
theorem pwFm_L_undo : pwChkM pwM_L_undo (0, 982, 981, 0, 23) = true := by decide +kernel
theorem pwFm_L_later : pwChkM pwM_L_later (0, 854, 853, 0, 23) = true := by decide +kernel
theorem pwFm_L_bestShift : pwChkM pwM_L_bestShift (0, 870, 869, 0, 23) = true := by decide +kernel
theorem pwFm_L_bestExchange : pwChkM pwM_L_bestExchange (0, 881, 880, 0, 23) = true := by decide +kernel
theorem pwFm_L_script : pwChkM pwM_L_script (0, 893, 892, 0, 23) = true := by decide +kernel
theorem pwFm_L_simulate : pwChkM pwM_L_simulate (0, 932, 931, 0, 23) = true := by decide +kernel
theorem pwFm_L_save : pwChkM pwM_L_save (0, 546, 545, 0, 23) = true := by decide +kernel
theorem pwFm_L_restore : pwChkM pwM_L_restore (0, 589, 588, 0, 23) = true := by decide +kernel
theorem pwFm_L_now : pwChkM pwM_L_now (0, 600, 599, 0, 23) = true := by decide +kernel
theorem pwFm_L_errors : pwChkM pwM_L_errors (0, 597, 596, 0, 23) = true := pwChkQ rfl rfl (by decide +kernel) (by decide +kernel) (by decide +kernel) (by decide +kernel)
theorem pwFm_L_kept : pwChkM pwM_L_kept (0, 970, 969, 0, 23) = true := pwChkQ rfl rfl (by decide +kernel) (by decide +kernel) (by decide +kernel) (by decide +kernel)
theorem pwFm_L_follows : pwChkM pwM_L_follows (0, 979, 978, 0, 23) = true := pwChkQ rfl rfl (by decide +kernel) (by decide +kernel) (by decide +kernel) (by decide +kernel)
theorem pwFm_L_alike : pwChkM pwM_L_alike (0, 1002, 1001, 0, 23) = true := by decide +kernel
theorem pwFm_L_says : pwChkM pwM_L_says (0, 1021, 1020, 0, 23) = true := by decide +kernel
theorem pwFm_L_told : pwChkM pwM_L_told (0, 1010, 1009, 0, 23) = true := by decide +kernel
theorem pwFm_L_act : pwChkM pwM_L_act (0, 1024, 1023, 0, 23) = true := by decide +kernel
theorem pwCc {f : pwE → Bool} {c : Nat × List pwE} {cs : List (Nat × List pwE)} (h1 : c.2.all f = true) (h2 : (cs.all fun c => c.2.all f) = true) : ((c :: cs).all fun c => c.2.all f) = true := by rw [List.all_cons, h1, h2]; rfl
theorem pwFc_X0_init : pwChkC pwM_X0_init = true := by decide +kernel
theorem pwFc_X0_forgetAll : pwChkC pwM_X0_forgetAll = true := by decide +kernel
theorem pwFc_X0_remember : pwChkC pwM_X0_remember = true := by decide +kernel
theorem pwFc_X0_takeBack : pwChkC pwM_X0_takeBack = true := by decide +kernel
theorem pwFc_X0_stateAt : pwChkC pwM_X0_stateAt = true := by decide +kernel
theorem pwFc_X1_init : pwChkC pwM_X1_init = true := by decide +kernel
theorem pwFc_X1_numberOf : pwChkC pwM_X1_numberOf = true := by decide +kernel
theorem pwFc_X1_longestRise : pwChkC pwM_X1_longestRise = true := by decide +kernel
theorem pwFc_X1_rightLetters : pwChkC pwM_X1_rightLetters = true := by decide +kernel
theorem pwFc_X1_mendingExchanges : pwChkC pwM_X1_mendingExchanges = true := by decide +kernel
theorem pwFc_X2_groupFromEnd : pwChkC pwM_X2_groupFromEnd = true := by decide +kernel
theorem pwFc_X2_succeeds : pwChkC pwM_X2_succeeds = true := by decide +kernel
theorem pwFc_X2_hasZerosInPlace : pwChkC pwM_X2_hasZerosInPlace = true := by decide +kernel
theorem pwFc_X3_init : pwChkC pwM_X3_init = true := by decide +kernel
theorem pwFc_X4_init : pwChkC pwM_X4_init = true := by decide +kernel
theorem pwFc_X4_isStreet : pwChkC pwM_X4_isStreet = true := by decide +kernel
theorem pwFc_X4_isShift : pwChkC pwM_X4_isShift = true := by decide +kernel
theorem pwFc_X4_exists : pwChkC pwM_X4_exists = true := by decide +kernel
theorem pwFc_X4_isFull : pwChkC pwM_X4_isFull = true := by decide +kernel
theorem pwFc_X4_removeAll : pwChkC pwM_X4_removeAll = true := by decide +kernel
theorem pwFc_X4_become : pwChkC pwM_X4_become = true := by decide +kernel
theorem pwFc_X4_addStreet : pwChkC pwM_X4_addStreet = true := by decide +kernel
theorem pwFc_X4_cellsOf : pwChkC pwM_X4_cellsOf = true := by decide +kernel
theorem pwFc_X4_greenOf : pwChkC pwM_X4_greenOf = true := by decide +kernel
theorem pwFc_X4_redOf : pwChkC pwM_X4_redOf = true := by decide +kernel
theorem pwFc_X4_shiftOf : pwChkC pwM_X4_shiftOf = true := by decide +kernel
theorem pwFc_X4_widthOf : pwChkC pwM_X4_widthOf = true := by decide +kernel
theorem pwFc_X4_changeShift : pwChkC pwM_X4_changeShift = true := by decide +kernel
theorem pwFc_X4_isGreen : pwChkC pwM_X4_isGreen = true := by decide +kernel
theorem pwFc_X4_noteReader : pwChkC pwM_X4_noteReader = true := by decide +kernel
theorem pwFc_X4_forgetReaders : pwChkC pwM_X4_forgetReaders = true := by decide +kernel
theorem pwFc_X4_readCountOf : pwChkC pwM_X4_readCountOf = true := by decide +kernel
theorem pwFc_X4_readAt : pwChkC pwM_X4_readAt = true := by decide +kernel
theorem pwFc_X4_pairsReadFalling : pwChkC pwM_X4_pairsReadFalling = true := by decide +kernel
theorem pwFc_X5_init : pwChkC pwM_X5_init = true := by decide +kernel
theorem pwFc_X5_isLetter : pwChkC pwM_X5_isLetter = true := by decide +kernel
theorem pwFc_X5_isSetting : pwChkC pwM_X5_isSetting = true := by decide +kernel
theorem pwFc_X5_isTicks : pwChkC pwM_X5_isTicks = true := by decide +kernel
theorem pwFc_X5_makeNew : pwChkC pwM_X5_makeNew = true := by decide +kernel
theorem pwFc_X5_become : pwChkC pwM_X5_become = true := by decide +kernel
theorem pwFc_X5_hasWalker : pwChkC pwM_X5_hasWalker = true := by decide +kernel
theorem pwFc_X5_hasPlace : pwChkC pwM_X5_hasPlace = true := by decide +kernel
theorem pwFc_X5_isFull : pwChkC pwM_X5_isFull = true := by decide +kernel
theorem pwFc_X5_mayGrow : pwChkC pwM_X5_mayGrow = true := by decide +kernel
theorem pwFc_X5_walkerAt : pwChkC pwM_X5_walkerAt = true := by decide +kernel
theorem pwFc_X5_letterOf : pwChkC pwM_X5_letterOf = true := by decide +kernel
theorem pwFc_X5_placeOf : pwChkC pwM_X5_placeOf = true := by decide +kernel
theorem pwFc_X5_standingOf : pwChkC pwM_X5_standingOf = true := by decide +kernel
theorem pwFc_X5_hasCome : pwChkC pwM_X5_hasCome = true := by decide +kernel
theorem pwFc_X5_come : pwChkC pwM_X5_come = true := by decide +kernel
theorem pwFc_X5_allHaveCome : pwChkC pwM_X5_allHaveCome = true := by decide +kernel
theorem pwFc_X5_countStanding : pwChkC pwM_X5_countStanding = true := by decide +kernel
theorem pwFc_X5_countOnStreet : pwChkC pwM_X5_countOnStreet = true := by decide +kernel
theorem pwFc_X5_walkerInCell : pwChkC pwM_X5_walkerInCell = true := by decide +kernel
theorem pwFc_X5_isInCell : pwChkC pwM_X5_isInCell = true := by decide +kernel
theorem pwFc_X5_wrongPairs : pwChkC pwM_X5_wrongPairs = true := by decide +kernel
theorem pwFc_X5_numberOfWalker : pwChkC pwM_X5_numberOfWalker = true := by decide +kernel
theorem pwFc_X5_numberOfStreet : pwChkC pwM_X5_numberOfStreet = true := by decide +kernel
theorem pwFc_X5_addWalker : pwChkC pwM_X5_addWalker = true := by decide +kernel
theorem pwFc_X5_changeLetter : pwChkC pwM_X5_changeLetter = true := by decide +kernel
theorem pwFc_X5_swapWalkers : pwChkC pwM_X5_swapWalkers = true := by decide +kernel
theorem pwFc_X5_sendBack : pwChkC pwM_X5_sendBack = true := by decide +kernel
theorem pwFc_X5_changeSetting : pwChkC pwM_X5_changeSetting = true := by decide +kernel
theorem pwFc_X5_triesWalker : pwChkC pwM_X5_triesWalker = true := by decide +kernel
theorem pwFc_X5_triesStreet : pwChkC pwM_X5_triesStreet = true := by decide +kernel
theorem pwFc_X5_triesShift : pwChkC pwM_X5_triesShift = true := by decide +kernel
theorem pwFc_X5_triesExchange : pwChkC pwM_X5_triesExchange = true := by decide +kernel
theorem pwFc_X5_triesSetting : pwChkC pwM_X5_triesSetting = true := by decide +kernel
theorem pwFc_X5_triesTicks : pwChkC pwM_X5_triesTicks = true := by decide +kernel
theorem pwFc_X5_ticksUntilAllIn : pwChkC pwM_X5_ticksUntilAllIn = true := by decide +kernel
theorem pwFc_X5_runWhileAnyoneWalks : pwChkC pwM_X5_runWhileAnyoneWalks = true := by decide +kernel
theorem pwFc_X5_tick : pwChkC pwM_X5_tick = true := by decide +kernel
theorem pwFc_X5_endOf : pwChkC pwM_X5_endOf = true := by decide +kernel
theorem pwFc_X5_mayLeave : pwChkC pwM_X5_mayLeave = true := by decide +kernel
theorem pwFc_X5_leave : pwChkC pwM_X5_leave = true := by decide +kernel
theorem pwFc_X5_leavingPlace : pwChkC pwM_X5_leavingPlace = true := by decide +kernel
theorem pwFc_X5_lowestPlace : pwChkC pwM_X5_lowestPlace = true := by decide +kernel
theorem pwFc_X5_bringForward : pwChkC pwM_X5_bringForward = true := by decide +kernel
theorem pwFc_X5_joinsCrowd : pwChkC pwM_X5_joinsCrowd = true := by decide +kernel
theorem pwFc_X5_moveOn : pwChkC pwM_X5_moveOn = true := by decide +kernel
theorem pwFc_X5_mix : pwChkC pwM_X5_mix = true := by decide +kernel
theorem pwFc_X5_swapPlaces : pwChkC pwM_X5_swapPlaces = true := by decide +kernel
theorem pwFc_X5_stand : pwChkC pwM_X5_stand = true := by decide +kernel
theorem pwFc_X6_init : pwChkC pwM_X6_init = true := by decide +kernel
theorem pwFc_X6_isFull : pwChkC pwM_X6_isFull = true := by decide +kernel
theorem pwFc_X6_addSign : pwChkC pwM_X6_addSign = true := by decide +kernel
theorem pwFc_X6_emptied : pwChkC pwM_X6_emptied = true := by decide +kernel
theorem pwFc_X6_firstError : pwChkC pwM_X6_firstError = true := by decide +kernel
theorem pwFc_X6_beginReading : pwChkC pwM_X6_beginReading = true := by decide +kernel
theorem pwFc_X6_endsCommand : pwChkC pwM_X6_endsCommand = true := by decide +kernel
theorem pwFc_X6_takes : pwChkC pwM_X6_takes = true := by decide +kernel
theorem pwFc_X6_takesLetter : pwChkC pwM_X6_takesLetter = true := by decide +kernel
theorem pwFc_X6_rangesOf : pwChkC pwM_X6_rangesOf = true := by decide +kernel
theorem pwFc_X6_takesNumberSign : pwChkC pwM_X6_takesNumberSign = true := by decide +kernel
theorem pwFc_X6_carriesOut : pwChkC pwM_X6_carriesOut = true := by decide +kernel
theorem pwFc_X7_init : pwChkC pwM_X7_init = true := by decide +kernel
theorem pwFc_X7_append : pwChkC pwM_X7_append = true := by decide +kernel
theorem pwFc_X7_clearText : pwChkC pwM_X7_clearText = true := by decide +kernel
theorem pwFc_X7_errorPosition : pwChkC pwM_X7_errorPosition = true := by decide +kernel
theorem pwFc_X7_load : pwChkC pwM_X7_load = true := by decide +kernel
theorem pwFc_X7_about : pwChkC pwM_X7_about = true := by decide +kernel
theorem pwFc_X7_walkerOf : pwChkC pwM_X7_walkerOf = true := by decide +kernel
theorem pwFc_X7_streetOf : pwChkC pwM_X7_streetOf = true := by decide +kernel
theorem pwFc_X7_cell : pwChkC pwM_X7_cell = true := by decide +kernel
theorem pwFc_X7_file : pwChkC pwM_X7_file = true := by decide +kernel
theorem pwFc_X7_read : pwChkC pwM_X7_read = true := by decide +kernel
theorem pwFc_X7_walker : pwChkC pwM_X7_walker = true := by decide +kernel
theorem pwFc_X7_street : pwChkC pwM_X7_street = true := by decide +kernel
theorem pwFc_X7_shift : pwChkC pwM_X7_shift = true := by decide +kernel
theorem pwFc_X7_letter : pwChkC pwM_X7_letter = true := by decide +kernel
theorem pwFc_X7_exchange : pwChkC pwM_X7_exchange = true := by decide +kernel
theorem pwFc_X7_back : pwChkC pwM_X7_back = true := by decide +kernel
theorem pwFc_X7_set : pwChkC pwM_X7_set = true := by decide +kernel
theorem pwFc_X7_ticks : pwChkC pwM_X7_ticks = true := by decide +kernel
theorem pwFc_X7_undo : pwChkC pwM_X7_undo = true := by decide +kernel
theorem pwFc_X7_allIn : pwChkC pwM_X7_allIn = true := by decide +kernel
theorem pwFc_X7_later : pwChkC pwM_X7_later = true := by decide +kernel
theorem pwFc_X7_bestRule : pwChkC pwM_X7_bestRule = true := by decide +kernel
theorem pwFc_X7_bestShift : pwChkC pwM_X7_bestShift = true := by decide +kernel
theorem pwFc_X7_bestExchange : pwChkC pwM_X7_bestExchange = true := by decide +kernel
theorem pwFc_X7_gainOnTrial : pwChkC pwM_X7_gainOnTrial = true := by decide +kernel
theorem pwFc_X7_runScript : pwChkC pwM_X7_runScript = true := by decide +kernel
theorem pwFc_X7_simulate : pwChkC pwM_X7_simulate = true := by decide +kernel
theorem pwFc_X7_takeTurn : pwChkC pwM_X7_takeTurn = true := by decide +kernel
theorem pwFc_X7_save : pwChkC pwM_X7_save = true := by decide +kernel
theorem pwFc_X7_restore : pwChkC pwM_X7_restore = true := by decide +kernel
theorem pwFc_X7_at : pwChkC pwM_X7_at = true := by decide +kernel
theorem pwFc_X7_put : pwChkC pwM_X7_put = true := by decide +kernel
theorem pwFc_X7_copyRow : pwChkC pwM_X7_copyRow = true := by decide +kernel
theorem pwFc_X7_pairsFalling : pwChkC pwM_X7_pairsFalling = true := by decide +kernel
theorem pwFc_L_draw : pwChkC pwM_L_draw = true := by decide +kernel
theorem pwFc_L_in : pwChkC pwM_L_in = true := by decide +kernel
theorem pwFc_L_append : pwChkC pwM_L_append = true := by decide +kernel
theorem pwFc_L_load : pwChkC pwM_L_load = true := by decide +kernel
theorem pwFc_L_about : pwChkC pwM_L_about = true := by decide +kernel
theorem pwFc_L_walkerOf : pwChkC pwM_L_walkerOf = true := by decide +kernel
theorem pwFc_L_streetOf : pwChkC pwM_L_streetOf = true := by decide +kernel
theorem pwFc_L_cell : pwChkC pwM_L_cell = true := by decide +kernel
theorem pwFc_L_file : pwChkC pwM_L_file = true := by decide +kernel
theorem pwFc_L_read : pwChkC pwM_L_read = true := by decide +kernel
theorem pwFc_L_walker : pwChkC pwM_L_walker = true := by decide +kernel
theorem pwFc_L_street : pwChkC pwM_L_street = true := by decide +kernel
theorem pwFc_L_shift : pwChkC pwM_L_shift = true := by decide +kernel
theorem pwFc_L_letter : pwChkC pwM_L_letter = true := by decide +kernel
theorem pwFc_L_exchange : pwChkC pwM_L_exchange = true := by decide +kernel
theorem pwFc_L_set : pwChkC pwM_L_set = true := by decide +kernel
theorem pwFc_L_ticks : pwChkC pwM_L_ticks = true := by decide +kernel
theorem pwFc_L_undo : pwChkC pwM_L_undo = true := by decide +kernel
theorem pwFc_L_later : pwChkC pwM_L_later = true := by decide +kernel
theorem pwFc_L_bestShift : pwChkC pwM_L_bestShift = true := by decide +kernel
theorem pwFc_L_bestExchange : pwChkC pwM_L_bestExchange = true := by decide +kernel
theorem pwFc_L_script : pwChkC pwM_L_script = true := by decide +kernel
theorem pwFc_L_simulate : pwChkC pwM_L_simulate = true := by decide +kernel
theorem pwFc_L_save : pwChkC pwM_L_save = true := by decide +kernel
theorem pwFc_L_restore : pwChkC pwM_L_restore = true := by decide +kernel
theorem pwFc_L_now : pwChkC pwM_L_now = true := by decide +kernel
theorem pwFc_L_errors : pwChkC pwM_L_errors = true := by decide +kernel
theorem pwFc_L_kept : pwChkC pwM_L_kept = true := by decide +kernel
theorem pwFc_L_follows : pwChkC pwM_L_follows = true := by decide +kernel
theorem pwFc_L_alike : pwChkC pwM_L_alike = true := by decide +kernel
theorem pwFc_L_says : pwChkC pwM_L_says = true := by decide +kernel
theorem pwFc_L_told : pwChkC pwM_L_told = true := by decide +kernel
theorem pwFc_L_act : pwChkC pwM_L_act = true := by decide +kernel
