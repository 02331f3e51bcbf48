/-! the pure part: the law's world, the numbers of its codes -/
theorem cls_fr {xx : Nat} {Fq : FS} {w w1 : pwW} (hf : ∀ aq, xx ≤ aq → aq < xx + 280 → w1 aq = w aq) (h : clsW xx Fq w) : clsW xx Fq w1 := by
  obtain ⟨h1, h2, h3, ⟨h4, fr, h5⟩, h6, h7, h8, h9⟩ := h
  exact ⟨by rw [hf _ (by omega) (by omega)]; exact h1, tA_fr (fun aq a c => hf aq (by omega) (by omega)) h2, tAny_fr (fun aq a c => hf aq (by omega) (by omega)) h3, ⟨by rw [hf _ (by omega) (by omega)]; exact h4, fr, by rw [hf _ (by omega) (by omega)]; exact h5⟩, textW_fr (fun aq a c => hf aq (by omega) (by omega)) h6, histW_fr (fun aq a c => hf aq (by omega) (by omega)) h7, slotW_fr (fun aq a c => hf aq (by omega) (by omega)) h8, slotW_fr (fun aq a c => hf aq (by omega) (by omega)) h9⟩
theorem mkM_cong {bq : Nat} {sc : Nat → Int32} {Rq : Nat → Nat → Int32} {w w1 : pwW} (h : ∀ aq, bq ≤ aq → aq < bq + 10 → w1 aq = w aq) (hw : w = mkM bq sc Rq w) : w1 = mkM bq sc Rq w1 := by
  funext aq
  by_cases h1 : bq ≤ aq ∧ aq < bq + 10
  · rw [h aq h1.1 h1.2, congrFun hw aq]
    unfold mkM
    by_cases h2 : aq = bq
    · rw [if_pos h2, if_pos h2]
    · rw [if_neg h2, if_neg h2]
      by_cases h3 : aq = bq + 6
      · rw [if_pos h3, if_pos h3]
      · rw [if_neg h3, if_neg h3, if_pos (by omega), if_pos (by omega)]
  · rw [mm_o (by omega)]
theorem mkM_idem {bq : Nat} {sc : Nat → Int32} {Rq : Nat → Nat → Int32} {w : pwW} : mkM bq sc Rq w = mkM bq sc Rq (mkM bq sc Rq w) := by
  funext aq
  unfold mkM
  split
  · rfl
  · split
    · rfl
    · split <;> rfl
def LW (so : Nat → Nat) (bq L9 N9 : Nat) (xs : Nat → Int32) (Fq : FS) (w : pwW) : Prop := clsW N9 Fq w ∧ (∃ sc Rq, w = mkM (N9 + 280) sc Rq w ∧ modR sc Rq Fq) ∧ (∃ fz : Nat → Int64, w (N9 + 290) = .inl (1, 1, .inr (.inl fz))) ∧ w bq = .inl (4, L9, .inl xs) ∧ bq < N9 ∧ soW so N9 w
theorem soW_f2 {so : Nat → Nat} {N9 : Nat} {w w1 : pwW} (h : soW so N9 w) (hf : ∀ aq, aq < N9 → w1 aq = w aq) : soW so N9 w1 := by
  refine ⟨h.1, fun jq q9 h1 => ?_⟩
  have h2 : jq < 8 := (List.getElem?_eq_some_iff.mp h1).1
  rw [hf _ (h.1 jq h2)]
  exact h.2 jq q9 h1
theorem LW_mk {so : Nat → Nat} {bq L9 N9 : Nat} {xs : Nat → Int32} {Fq : FS} {w : pwW} {s1 : Nat → Int32} {R1 : Nat → Nat → Int32} (h1 : clsW N9 Fq w) (h2 : modR s1 R1 Fq) (h3 : ∃ fz : Nat → Int64, w (N9 + 290) = .inl (1, 1, .inr (.inl fz))) (h4 : w bq = .inl (4, L9, .inl xs)) (h5 : bq < N9) (h6 : soW so N9 w) : LW so bq L9 N9 xs Fq (mkM (N9 + 280) s1 R1 w) := by
  obtain ⟨fz, h3⟩ := h3
  exact ⟨cls_fr (fun aq c1 c2 => mm_o (by omega)) h1, ⟨s1, R1, mkM_idem, h2⟩, ⟨fz, by rw [mm_o (by omega)]; exact h3⟩, by rw [mm_o (by omega)]; exact h4, h5, soW_f2 h6 (fun aq ha => mm_o (by omega))⟩
theorem ld4 {w : pwW} {bq L9 jq : Nat} {xs : Nat → Int32} (hb : w bq = .inl (4, L9, .inl xs)) (h : jq < L9) (hL : L9 ≤ 2560) : pwLd w bq (zN jq) = some (xs jq) := by
  rw [qLd hb (Or.inr rfl) (qIn_of h (by omega)), zN_nat (by omega)]
theorem lds {w : pwW} {bq L9 iq : Nat} {xs : Nat → Int32} (hb : w bq = .inl (4, L9, .inl xs)) (h : iq + 5 ≤ L9) (hL : L9 ≤ 2560) : pwLd w bq (zN iq) = some (xs iq) ∧ pwLd w bq (zN (iq + 1)) = some (xs (iq + 1)) ∧ pwLd w bq (zN (iq + 2)) = some (xs (iq + 2)) ∧ pwLd w bq (zN (iq + 3)) = some (xs (iq + 3)) ∧ pwLd w bq (zN (iq + 4)) = some (xs (iq + 4)) :=
  ⟨ld4 hb (by omega) hL, ld4 hb (by omega) hL, ld4 hb (by omega) hL, ld4 hb (by omega) hL, ld4 hb (by omega) hL⟩
theorem cd_append {Fq : FS} {kq : Int32} : (fApp Fq kq).1.1 ≤ 2 := by
  unfold fApp
  (repeat' split) <;> first | exact Nat.zero_le _ | exact (by decide : 1 ≤ 2) | exact (by decide : 2 ≤ 2) | exact (by decide : 3 ≤ 2)
theorem cd_load {Fq : FS}  : (fLoad Fq).1.1 ≤ 1 := by
  unfold fLoad
  (repeat' split) <;> first | exact Nat.zero_le _ | exact (by decide : 1 ≤ 1) | exact (by decide : 2 ≤ 1) | exact (by decide : 3 ≤ 1)
theorem cd_about {Fq : FS} {pq : Int32} : (fAbout Fq pq).1 ≤ 1 := by
  unfold fAbout
  (repeat' split) <;> first | exact Nat.zero_le _ | exact (by decide : 1 ≤ 1) | exact (by decide : 2 ≤ 1) | exact (by decide : 3 ≤ 1)
theorem cd_walkerOf {Fq : FS} {kq : Int32} {pq : Int32} : (fWalkerOf Fq kq pq).1 ≤ 2 := by
  unfold fWalkerOf
  (repeat' split) <;> first | exact Nat.zero_le _ | exact (by decide : 1 ≤ 2) | exact (by decide : 2 ≤ 2) | exact (by decide : 3 ≤ 2)
theorem cd_streetOf {Fq : FS} {kq : Int32} {pq : Int32} : (fStreetOf Fq kq pq).1 ≤ 2 := by
  unfold fStreetOf
  (repeat' split) <;> first | exact Nat.zero_le _ | exact (by decide : 1 ≤ 2) | exact (by decide : 2 ≤ 2) | exact (by decide : 3 ≤ 2)
theorem cd_cell {Fq : FS} {kq : Int32} {pq : Int32} : (fCell Fq kq pq).1 ≤ 1 := by
  unfold fCell
  (repeat' split) <;> first | exact Nat.zero_le _ | exact (by decide : 1 ≤ 1) | exact (by decide : 2 ≤ 1) | exact (by decide : 3 ≤ 1)
theorem cd_file {Fq : FS} {kq : Int32} : (fFile Fq kq).1 ≤ 1 := by
  unfold fFile
  (repeat' split) <;> first | exact Nat.zero_le _ | exact (by decide : 1 ≤ 1) | exact (by decide : 2 ≤ 1) | exact (by decide : 3 ≤ 1)
theorem cd_read {Fq : FS} {kq : Int32} {pq : Int32} : (fRead Fq kq pq).1 ≤ 2 := by
  unfold fRead
  (repeat' split) <;> first | exact Nat.zero_le _ | exact (by decide : 1 ≤ 2) | exact (by decide : 2 ≤ 2) | exact (by decide : 3 ≤ 2)
theorem cd_walker {Fq : FS} {pq : Int32} : (fWalker Fq pq).1.1 ≤ 2 := by
  unfold fWalker
  (repeat' split) <;> first | exact Nat.zero_le _ | exact (by decide : 1 ≤ 2) | exact (by decide : 2 ≤ 2) | exact (by decide : 3 ≤ 2)
theorem cd_street {Fq : FS} {pq : Int32} {rq : Int32} {tq : Int32} {uq : Int32} : (fStreet Fq pq rq tq uq).1.1 ≤ 2 := by
  unfold fStreet
  (repeat' split) <;> first | exact Nat.zero_le _ | exact (by decide : 1 ≤ 2) | exact (by decide : 2 ≤ 2) | exact (by decide : 3 ≤ 2)
theorem cd_shift {Fq : FS} {kq : Int32} {pq : Int32} : (fShift Fq kq pq).1.1 ≤ 2 := by
  unfold fShift
  (repeat' split) <;> first | exact Nat.zero_le _ | exact (by decide : 1 ≤ 2) | exact (by decide : 2 ≤ 2) | exact (by decide : 3 ≤ 2)
theorem cd_letter {Fq : FS} {kq : Int32} {pq : Int32} : (fLetter Fq kq pq).1.1 ≤ 2 := by
  unfold fLetter
  (repeat' split) <;> first | exact Nat.zero_le _ | exact (by decide : 1 ≤ 2) | exact (by decide : 2 ≤ 2) | exact (by decide : 3 ≤ 2)
theorem cd_exchange {Fq : FS} {kq : Int32} {pq : Int32} : (fExch Fq kq pq).1.1 ≤ 3 := by
  unfold fExch
  (repeat' split) <;> first | exact Nat.zero_le _ | exact (by decide : 1 ≤ 3) | exact (by decide : 2 ≤ 3) | exact (by decide : 3 ≤ 3)
theorem cd_set {Fq : FS} {kq : Int32} {pq : Int32} : (fSet Fq kq pq).1.1 ≤ 1 := by
  unfold fSet
  (repeat' split) <;> first | exact Nat.zero_le _ | exact (by decide : 1 ≤ 1) | exact (by decide : 2 ≤ 1) | exact (by decide : 3 ≤ 1)
theorem cd_ticks {Fq : FS} {pq : Int32} : (fTicks Fq pq).1.1 ≤ 1 := by
  unfold fTicks
  (repeat' split) <;> first | exact Nat.zero_le _ | exact (by decide : 1 ≤ 1) | exact (by decide : 2 ≤ 1) | exact (by decide : 3 ≤ 1)
theorem cd_undo {Fq : FS}  : (fUndo Fq).1.1 ≤ 1 := by
  unfold fUndo
  (repeat' split) <;> first | exact Nat.zero_le _ | exact (by decide : 1 ≤ 1) | exact (by decide : 2 ≤ 1) | exact (by decide : 3 ≤ 1)
theorem cd_later {Fq : FS} {pq : Int32} {kq : Int32} : (fLater Fq pq kq).1 ≤ 1 := by
  unfold fLater
  (repeat' split) <;> first | exact Nat.zero_le _ | exact (by decide : 1 ≤ 1) | exact (by decide : 2 ≤ 1) | exact (by decide : 3 ≤ 1)
theorem cd_bestShift {Fq : FS} {kq : Int32} : (fBShift Fq kq).1 ≤ 1 := by
  unfold fBShift
  (repeat' split) <;> first | exact Nat.zero_le _ | exact (by decide : 1 ≤ 1) | exact (by decide : 2 ≤ 1) | exact (by decide : 3 ≤ 1)
theorem cd_bestExchange {Fq : FS} {pq : Int32} : (fBest Fq pq).1 ≤ 1 := by
  unfold fBest
  (repeat' split) <;> first | exact Nat.zero_le _ | exact (by decide : 1 ≤ 1) | exact (by decide : 2 ≤ 1) | exact (by decide : 3 ≤ 1)
theorem cd_runScript {Fq : FS} {pq : Int32} {sz : Int64} : (fScr Fq pq sz).1 ≤ 1 := by
  unfold fScr
  (repeat' split) <;> first | exact Nat.zero_le _ | exact (by decide : 1 ≤ 1) | exact (by decide : 2 ≤ 1) | exact (by decide : 3 ≤ 1)
theorem cd_simulate {Fq : FS} {sz : Int64} {pq : Int32} : (fSim Fq sz pq).1 ≤ 1 := by
  unfold fSim
  (repeat' split) <;> first | exact Nat.zero_le _ | exact (by decide : 1 ≤ 1) | exact (by decide : 2 ≤ 1) | exact (by decide : 3 ≤ 1)
theorem cd_save {Fq : FS} {kq : Int32} : (fSave Fq kq).1.1 ≤ 1 := by
  unfold fSave
  (repeat' split) <;> first | exact Nat.zero_le _ | exact (by decide : 1 ≤ 1) | exact (by decide : 2 ≤ 1) | exact (by decide : 3 ≤ 1)
theorem cd_restore {Fq : FS} {kq : Int32} : (fRest Fq kq).1.1 ≤ 2 := by
  unfold fRest
  (repeat' split) <;> first | exact Nat.zero_le _ | exact (by decide : 1 ≤ 2) | exact (by decide : 2 ≤ 2) | exact (by decide : 3 ≤ 2)
