/-! the pure part: what comes is so when it is done; exchanges; what is taken back -/
section QI
variable {Aq Bq : TA} {sq bz nq : Nat}
theorem tIn_spec : ∀ dq nq (Aq : TA), invT Aq → tIn dq nq Aq = zM ∨ ∃ hq, hq < dq ∧ tIn dq nq Aq = zN (nq + hq) ∧ (tL (tTicks hq Aq) 0).length = tN Aq 1 ∧ ∀ iq, iq < hq → ¬ (tL (tTicks iq Aq) 0).length = tN Aq 1
  | 0, _, _, _ => Or.inl rfl
  | dq + 1, nq, Aq, hI => by
    unfold tIn
    by_cases h : (tL Aq 0).length = tN Aq 1
    · rw [if_pos h]
      exact Or.inr ⟨0, Nat.succ_pos _, rfl, h, fun iq hi => absurd hi (Nat.not_lt_zero _)⟩
    · rw [if_neg h]
      rcases tIn_spec dq (nq + 1) (tTick Aq) (inv_Tick hI) with h1 | ⟨hq, a, b, c, d⟩
      · exact Or.inl h1
      · refine Or.inr ⟨hq + 1, by omega, by rw [b, show nq + 1 + hq = nq + (hq + 1) by omega], ?_, ?_⟩
        · rw [tTick_N hI] at c
          exact c
        · intro iq hi
          cases iq with
          | zero => exact h
          | succ iq =>
            have h2 := d iq (by omega)
            rw [tTick_N hI] at h2
            exact h2
/-- the best exchange -/
def bxP (Aq : TA) (st : T3) : Prop := st = (zM, zM, zN 0) ∨ ∃ kq oq, kq < oq ∧ oq < tN Aq 1 ∧ zN 0 < gnF Aq kq oq ∧ st = (zN kq, zN oq, gnF Aq kq oq)
theorem bxS_P {kq oq : Nat} {st : T3} (h : bxP Aq st) (h1 : kq < oq) (h2 : oq < tN Aq 1) : bxP Aq (bxS Aq kq oq st) := by
  unfold bxS
  split
  · next h3 =>
    refine Or.inr ⟨kq, oq, h1, h2, ?_, rfl⟩
    rcases h with rfl | ⟨k9, o9, -, -, h4, rfl⟩
    · exact h3
    · exact Int32.lt_trans h4 h3
  · exact h
theorem bxI_P {kq : Nat} : ∀ dq oq (st : T3), bxP Aq st → kq < oq → oq + dq = tN Aq 1 → bxP Aq (bxI Aq kq dq oq st)
  | 0, _, _, h, _, _ => h
  | dq + 1, oq, st, h, h1, h2 => bxI_P dq (oq + 1) _ (bxS_P h h1 (by omega)) (by omega) (by omega)
theorem bxO_P : ∀ dq kq (st : T3), bxP Aq st → kq + dq = tN Aq 1 → bxP Aq (bxO Aq dq kq st)
  | 0, _, _, h, _ => h
  | dq + 1, kq, st, h, h2 => bxO_P dq (kq + 1) _ (bxI_P dq (kq + 1) st h (by omega) (by omega)) (by omega)
theorem best_P : bxP Aq (bxO Aq (tN Aq 1) 0 (zM, zM, zN 0)) := bxO_P _ 0 _ (Or.inl rfl) (by omega)
theorem gn_free {kq oq : Nat} (h : zN 0 < gnF Aq kq oq) : (¬ kq ∈ tL Aq 0 ∧ ¬ oq ∈ tL Aq 0) ∧ gnF Aq kq oq = zN (aWr Aq) - zN (aWr (tSwap Aq kq oq)) := by
  unfold gnF at h ⊢
  by_cases h1 : kq ∈ tL Aq 0 ∨ oq ∈ tL Aq 0
  · rw [if_pos h1] at h
    exact absurd h (by decide)
  · rw [if_neg h1]
    exact ⟨⟨fun h9 => h1 (Or.inl h9), fun h9 => h1 (Or.inr h9)⟩, rfl⟩
theorem swp_c {kq oq vq : Nat} : swp oq kq (swp kq oq vq) = vq := by
  have h : ∀ vq, swp oq kq vq = swp kq oq vq := by
    intro vq
    unfold swp
    by_cases h1 : vq = oq
    · by_cases h2 : vq = kq
      · rw [if_pos h1, if_pos h2, ← h1, ← h2]
      · rw [if_pos h1, if_neg h2, if_pos h1]
    · rw [if_neg h1]
      by_cases h2 : vq = kq
      · rw [if_pos h2, if_pos h2]
      · rw [if_neg h2, if_neg h2, if_neg h1]
  rw [h, swp_swp]
theorem sw_sw2 {kq oq : Nat} : tSwap (tSwap Aq kq oq) oq kq = Aq := by
  obtain ⟨a1, a2, a3⟩ := Aq
  have e1 : (fun jq => if jq < 8 then (tL (tSwap (a1, a2, a3) kq oq) jq).map (swp oq kq) else tL (tSwap (a1, a2, a3) kq oq) jq) = a1 := by
    funext jq
    by_cases h : jq < 8
    · rw [if_pos h, sw_L h, List.map_map]
      rw [show (swp oq kq ∘ swp kq oq) = id from funext fun vq => swp_c, List.map_id]
    · rw [if_neg h, sw_R (by omega)]
  have e2 : (fun sq => (tC (tSwap (a1, a2, a3) kq oq) sq).map (fun eq => (eq.1, swp oq kq eq.2))) = a2 := by
    funext jq
    rw [sw_C, List.map_map]
    rw [show ((fun eq : Nat × Nat => (eq.1, swp oq kq eq.2)) ∘ fun eq : Nat × Nat => (eq.1, swp kq oq eq.2)) = id from funext fun ⟨c9, v9⟩ => by show (c9, swp oq kq (swp kq oq v9)) = (c9, v9); rw [swp_c], List.map_id]
  show (_, _, a3) = (a1, a2, a3)
  rw [e1, e2]
theorem sw_N {kq oq : Nat} : tN (tSwap Aq kq oq) = tN Aq := rfl
/-- behind an action one takes back to the state ahead of it -/
theorem push_end (hs : List TA) (hl : hs.length ≤ 14) : ∃ ys, ys.length ≤ 13 ∧ (∀ Bq ∈ ys, Bq ∈ hs) ∧ pushH hs Aq = ys ++ [Aq] := by
  unfold pushH
  split
  · next h => exact ⟨hs.tail, by rw [List.length_tail]; omega, fun Bq hb => List.mem_of_mem_tail hb, rfl⟩
  · next h => exact ⟨hs, by omega, fun _ hb => hb, rfl⟩
theorem undo_act {Fq : FS} (hl : Fq.2.2.1.length ≤ 14) : ∃ ys, ys.length ≤ 13 ∧ (∀ Bq ∈ ys, Bq ∈ Fq.2.2.1) ∧ fUndo (fAct Fq Aq) = ((0, zN ys.length), (Fq.1, Fq.2.1, ys, Fq.2.2.2)) := by
  obtain ⟨ys, h1, h2, h3⟩ := push_end (Aq := Fq.2.1) Fq.2.2.1 hl
  refine ⟨ys, h1, h2, ?_⟩
  unfold fUndo fAct
  dsimp only
  rw [h3, List.reverse_append]
  show ((0, zN ys.reverse.length), (Fq.1, Fq.2.1, ys.reverse.reverse, Fq.2.2.2)) = _
  rw [List.length_reverse, List.reverse_reverse]
theorem undo_none {Fq : FS} (h : Fq.2.2.1 = []) : fUndo Fq = ((1, 0), Fq) := by
  unfold fUndo
  rw [h]
  rfl
-- actions at given numbers
theorem isWd_z {kq : Nat} (h4 : tN Aq 1 ≤ 10) (hk : kq < tN Aq 1) : isWd Aq (zN kq) := ⟨by rw [zN_toInt (by omega)]; omega, by rw [zN_toInt (by omega)]; omega⟩
theorem exch_v {Fq : FS} {kq oq : Nat} (hI : invT Fq.2.1) (hk : kq < tN Fq.2.1 1) (ho : oq < tN Fq.2.1 1) (hn : kq ≠ oq) (h1 : ¬ kq ∈ tL Fq.2.1 0) (h2 : ¬ oq ∈ tL Fq.2.1 0) : fExch Fq (zN kq) (zN oq) = ((0, zN (aWr Fq.2.1) - zN (aWr (tSwap Fq.2.1 kq oq))), fAct Fq (tSwap Fq.2.1 kq oq)) := by
  have h4 := hI.1
  unfold fExch
  rw [if_pos ⟨isWd_z (by omega) hk, isWd_z (by omega) ho⟩, un_zN (by omega), un_zN (by omega), if_neg hn, if_neg (fun h9 => h9.elim h1 h2)]
theorem ticks_v {Fq : FS} {nq : Nat} (h1 : 1 ≤ nq) (h2 : nq ≤ 99) : fTicks Fq (zN nq) = ((0, zN (tL (tTicks nq Fq.2.1) 0).length - zN (tL Fq.2.1 0).length), fAct Fq (tTicks nq Fq.2.1)) := by
  unfold fTicks
  rw [if_pos ⟨by rw [zN_toInt (by omega)]; omega, by rw [zN_toInt (by omega)]; omega⟩, un_zN (by omega)]
theorem later_v {Fq : FS} {nq kq : Nat} (h1 : 1 ≤ nq) (h2 : nq ≤ 500) (h3 : 3 ≤ kq) (h4 : kq ≤ 10) : fLater Fq (zN nq) (zN kq) = (0, aTold (tTicks nq Fq.2.1) kq) := by
  unfold fLater
  rw [if_pos ⟨⟨by rw [zN_toInt (by omega)]; omega, by rw [zN_toInt (by omega)]; omega⟩, by rw [zN_toInt (by omega)]; omega, by rw [zN_toInt (by omega)]; omega⟩, un_zN (by omega), un_zN (by omega)]
theorem told_6 : aTold Aq 6 = zN (tL Aq 0).length := rfl
theorem told_7 : aTold Aq 7 = zN (aWr Aq) := rfl
theorem save_v {Fq : FS} : fSave Fq (zN 1) = ((0, tT Fq.2.1), (Fq.1, Fq.2.1, Fq.2.2.1, slU Fq.2.2.2 1 (some Fq.2.1))) := by
  unfold fSave
  rw [if_pos (by decide)]
  rfl
theorem rest_v {Fq : FS} {Bq : TA} (h : Fq.2.2.2 1 = some Bq) : fRest Fq (zN 1) = ((0, tT Bq), (Fq.1, Bq, [], Fq.2.2.2)) := by
  unfold fRest
  rw [if_pos (by decide)]
  rw [show un (zN 1) = 1 from rfl, h]
theorem slU_s {sl : Nat → Option TA} {vq : Option TA} : slU sl 1 vq 1 = vq := if_pos rfl
theorem best_v {Fq : FS} {jq : Nat} (h : jq ≤ 2) : fBest Fq (zN jq) = (0, if jq = 0 then (bxO Fq.2.1 (tN Fq.2.1 1) 0 (zM, zM, zN 0)).1 else if jq = 1 then (bxO Fq.2.1 (tN Fq.2.1 1) 0 (zM, zM, zN 0)).2.1 else (bxO Fq.2.1 (tN Fq.2.1 1) 0 (zM, zM, zN 0)).2.2) := by
  unfold fBest
  rw [if_pos ⟨by rw [zN_toInt (by omega)]; omega, by rw [zN_toInt (by omega)]; omega⟩, un_zN (by omega)]
theorem sim_v {Fq : FS} {sz : Int64} {nq : Nat} (h1 : 1 ≤ nq) (h2 : nq ≤ 60) : fSim Fq sz (zN nq) = (0, (fSim Fq sz (zN nq)).2) := by
  unfold fSim
  rw [if_pos ⟨by rw [zN_toInt (by omega)]; omega, by rw [zN_toInt (by omega)]; omega⟩]
-- all states of an object
def okF (bz : Nat) (Fq : FS) : Prop := okT bz Fq.2.1 ∧ (∀ Bq ∈ Fq.2.2.1, okT bz Bq) ∧ ∀ iq Bq, Fq.2.2.2 iq = some Bq → okT bz Bq
theorem okF_le {Fq : FS} {cz : Nat} (h : okF bz Fq) (hb : bz ≤ cz) : okF cz Fq := ⟨ok_le h.1 hb, fun Bq hB => ok_le (h.2.1 Bq hB) hb, fun iq Bq hB => ok_le (h.2.2 iq Bq hB) hb⟩
theorem okF_act {Fq : FS} (h : okF bz Fq) (h2 : okT bz Aq) : okF bz (fAct Fq Aq) := by
  refine ⟨h2, fun Bq hB => ?_, h.2.2⟩
  have hB : Bq ∈ pushH Fq.2.2.1 Fq.2.1 := hB
  unfold pushH at hB
  split at hB
  · rcases List.mem_append.mp hB with hB | hB
    · exact h.2.1 Bq (List.mem_of_mem_tail hB)
    · rw [List.mem_singleton.mp hB]; exact h.1
  · rcases List.mem_append.mp hB with hB | hB
    · exact h.2.1 Bq hB
    · rw [List.mem_singleton.mp hB]; exact h.1
theorem okF_walker {Fq : FS} {pq : Int32} (hI : invT Fq.2.1) (h : okF bz Fq) : okF bz (fWalker Fq pq).2 := by
  unfold fWalker; split
  · split
    · exact okF_act h (ok_Walker hI h.1)
    · exact h
  · exact h
theorem okF_street {Fq : FS} {pq rq tq uq : Int32} (h : okF bz Fq) : okF bz (fStreet Fq pq rq tq uq).2 := by
  unfold fStreet; split
  · split
    · exact okF_act h (ok_Add h.1)
    · exact h
  · exact h
theorem okF_shift {Fq : FS} {kq pq : Int32} (h : okF bz Fq) : okF bz (fShift Fq kq pq).2 := by
  unfold fShift; split
  · split
    · exact okF_act h (ok_Num (by omega) h.1)
    · exact h
  · exact h
theorem okF_letter {Fq : FS} {kq pq : Int32} (h : okF bz Fq) : okF bz (fLetter Fq kq pq).2 := by
  unfold fLetter; split
  · split
    · exact okF_act h (ok_Letter h.1)
    · exact h
  · exact h
theorem okF_exch {Fq : FS} {kq pq : Int32} (h : okF bz Fq) : okF bz (fExch Fq kq pq).2 := by
  unfold fExch; split
  · split
    · exact h
    · split
      · exact h
      · next h9 => exact okF_act h (ok_Swap (fun h8 => h9 (Or.inl h8)) (fun h8 => h9 (Or.inr h8)) h.1)
  · exact h
theorem okF_back {Fq : FS} (h : okF bz Fq) : okF bz (fBack Fq).2 := okF_act h (ok_Back h.1)
theorem okF_set {Fq : FS} {kq pq : Int32} (h : okF bz Fq) : okF bz (fSet Fq kq pq).2 := by
  unfold fSet; split
  · exact okF_act h (ok_Num (by omega) h.1)
  · exact h
theorem okF_ticks {Fq : FS} {pq : Int32} (hI : invT Fq.2.1) (h : okF bz Fq) (hb : bz + 99 < 2147483648) : okF (bz + 99) (fTicks Fq pq).2 := by
  unfold fTicks; split
  · next h9 => exact okF_act (okF_le h (by omega)) (ok_le (ok_Ticks (un pq) bz Fq.2.1 hI h.1 (by unfold un; omega)) (by unfold un; omega))
  · exact okF_le h (by omega)
theorem okF_undo {Fq : FS} (h : okF bz Fq) : okF bz (fUndo Fq).2 := by
  unfold fUndo
  split
  · exact h
  · next Bq hs he =>
    have hm : ∀ Cq ∈ Bq :: hs, Cq ∈ Fq.2.2.1 := fun Cq hc => List.mem_reverse.mp (he ▸ hc)
    exact ⟨h.2.1 Bq (hm Bq List.mem_cons_self), fun Cq hc => h.2.1 Cq (hm Cq (List.mem_cons_of_mem _ (List.mem_reverse.mp hc))), h.2.2⟩
theorem okF_save {Fq : FS} {kq : Int32} (h : okF bz Fq) : okF bz (fSave Fq kq).2 := by
  unfold fSave; split
  · refine ⟨h.1, h.2.1, fun iq Bq hB => ?_⟩
    have hB : slU Fq.2.2.2 (un kq) (some Fq.2.1) iq = some Bq := hB
    unfold slU at hB
    split at hB
    · cases hB; exact h.1
    · exact h.2.2 iq Bq hB
  · exact h
theorem okF_rest {Fq : FS} {kq : Int32} (h : okF bz Fq) : okF bz (fRest Fq kq).2 := by
  unfold fRest; split
  · split
    · exact h
    · next Bq he => exact ⟨h.2.2 _ Bq he, fun Cq hc => (by cases hc), h.2.2⟩
  · exact h
theorem okF_ldG : ∀ (cs : List Nat) (s9 : RS) (k9 bz : Nat) (Aq : TA), invT Aq → okT bz Aq → bz + 99 * cs.length < 2147483648 → okT (bz + 99 * cs.length) (ldG carry cs s9 k9 Aq).2
  | [], _, _, _, _, _, h, _ => h
  | cq :: cs, s9, k9, bz, Aq, hI, h, hb => by
    rw [List.length_cons] at hb ⊢
    rw [ldG_s]
    split
    · have h1 := okF_ldG cs (pSt s9 cq).2 (if (carry (pSt s9 cq).2.1 (pSt s9 cq).2.2.2.2.2 Aq).1 = zN 0 then k9 + 1 else k9) (bz + 99) _ (inv_carry (cq := (pSt s9 cq).2.1) (fn := (pSt s9 cq).2.2.2.2.2) hI) (ok_carry hI h (by omega)) (by omega)
      rw [show bz + 99 * (cs.length + 1) = bz + 99 + 99 * cs.length by omega]
      exact h1
    · exact ok_le (okF_ldG cs (pSt s9 cq).2 k9 bz Aq hI h (by omega)) (by omega)
theorem okF_load {Fq : FS} (h : okF bz Fq) (hl : Fq.1.length ≤ 120) (hb : 11880 ≤ bz) : okF bz (fLoad Fq).2 := by
  unfold fLoad; split
  · refine ⟨?_, fun Cq hc => (by cases hc), fun iq Bq hB => (by cases hB)⟩
    have h1 := okF_ldG Fq.1.tail sR0 0 0 tNew inv_New ok_New (by rw [List.length_tail]; omega)
    exact ok_le h1 (by rw [List.length_tail]; omega)
  · exact h
theorem okF_app {Fq : FS} {kq : Int32} (h : okF bz Fq) : okF bz (fApp Fq kq).2 := by
  unfold fApp; split
  · split
    · exact h
    · exact h
  · exact h
theorem okF_clr {Fq : FS} (h : okF bz Fq) : okF bz (fClr Fq).2 := h
theorem okF_0 : okF bz ([], tNew, [], fun _ => none) := ⟨ok_New, fun Cq hc => (by cases hc), fun iq Bq hB => (by cases hB)⟩
end QI
