/-! the pure part: the model as an object: 10 cells; numbers sc by field, rows by address: 1 now, 2 trial, 3 read, 4 book, 5 kept, 6 isKept, 7 file, 8 rising, 9 text -/
def mSz (jq : Nat) : Nat := if jq ≤ 3 then 221 else if jq = 4 then 3094 else if jq = 5 then 442 else if jq = 9 then 120 else 10
def mkM (bq : Nat) (sc : Nat → Int32) (Rq : Nat → Nat → Int32) (w : pwW) : pwW := fun aq =>
  if aq = bq then .inr (7, [.int (sc 0), .ref (bq + 1), .ref (bq + 2), .ref (bq + 3), .ref (bq + 4), .int (sc 5), .ref (bq + 5), .ref (bq + 6), .ref (bq + 7), .ref (bq + 8), .ref (bq + 9), .int (sc 11), .int (sc 12), .int (sc 13), .int (sc 14)])
  else if aq = bq + 6 then .inl (2, 2, .inl (Rq 6))
  else if bq < aq ∧ aq < bq + 10 then .inl (0, mSz (aq - bq), .inl (Rq (aq - bq)))
  else w aq
section QT
variable {bq : Nat} {sc : Nat → Int32} {Rq : Nat → Nat → Int32} {w : pwW} {αq : Type} {kq : Value → Option αq} {hq : pwW → Option αq} {iz : Int32 → Option αq} {vq : Int32} {jq iq : Nat}
theorem mm_0 : mkM bq sc Rq w bq = .inr (7, [.int (sc 0), .ref (bq + 1), .ref (bq + 2), .ref (bq + 3), .ref (bq + 4), .int (sc 5), .ref (bq + 5), .ref (bq + 6), .ref (bq + 7), .ref (bq + 8), .ref (bq + 9), .int (sc 11), .int (sc 12), .int (sc 13), .int (sc 14)]) := if_pos rfl
theorem mm_6 : mkM bq sc Rq w (bq + 6) = .inl (2, 2, .inl (Rq 6)) := by unfold mkM; rw [if_neg (by omega), if_pos rfl]
theorem mm_r (h1 : 1 ≤ jq) (h2 : jq < 10) (h6 : jq ≠ 6) : mkM bq sc Rq w (bq + jq) = .inl (0, mSz jq, .inl (Rq jq)) := by
  unfold mkM; rw [if_neg (by omega), if_neg (by omega), if_pos ⟨by omega, by omega⟩, Nat.add_sub_cancel_left]
theorem mm_o {aq : Nat} (h : aq < bq ∨ bq + 10 ≤ aq) : mkM bq sc Rq w aq = w aq := by
  unfold mkM; rw [if_neg (by omega), if_neg (by omega), if_neg (by omega)]
theorem mm_w {fq : Nat → Int32} (h1 : 1 ≤ jq) (h2 : jq < 10) (h6 : jq ≠ 6) : va_up (mkM bq sc Rq w) (bq + jq) (.inl (0, mSz jq, .inl fq)) = mkM bq sc (va_up Rq jq fq) w := by
  funext aq
  by_cases ha : aq = bq + jq
  · subst ha
    rw [va_up_self, mm_r h1 h2 h6, va_up_self]
  · rw [va_up_ne _ _ ha]
    unfold mkM
    by_cases h3 : aq = bq
    · rw [if_pos h3, if_pos h3]
    · rw [if_neg h3, if_neg h3]
      by_cases h4 : aq = bq + 6
      · rw [if_pos h4, if_pos h4, va_up_ne _ _ (by omega)]
      · rw [if_neg h4, if_neg h4]
        by_cases h5 : bq < aq ∧ aq < bq + 10
        · rw [if_pos h5, if_pos h5, va_up_ne _ _ (by omega)]
        · rw [if_neg h5, if_neg h5]
theorem mm_g {kk : Nat} : pwGet (mkM bq sc Rq w) bq 7 kk = ([.int (sc 0), .ref (bq + 1), .ref (bq + 2), .ref (bq + 3), .ref (bq + 4), .int (sc 5), .ref (bq + 5), .ref (bq + 6), .ref (bq + 7), .ref (bq + 8), .ref (bq + 9), .int (sc 11), .int (sc 12), .int (sc 13), .int (sc 14)] : List Value)[kk]? := by unfold pwGet; rw [mm_0]; rfl
theorem mm_i : pwIsC (mkM bq sc Rq w) bq 7 = true := by unfold pwIsC; rw [mm_0]; rfl
theorem mg0 : (pwGet (mkM bq sc Rq w) bq 7 0).bind kq = kq (.int (sc 0)) := by rw [mm_g]; rfl
theorem mg1 : (pwGet (mkM bq sc Rq w) bq 7 1).bind kq = kq (.ref (bq + 1)) := by rw [mm_g]; rfl
theorem mg2 : (pwGet (mkM bq sc Rq w) bq 7 2).bind kq = kq (.ref (bq + 2)) := by rw [mm_g]; rfl
theorem mg3 : (pwGet (mkM bq sc Rq w) bq 7 3).bind kq = kq (.ref (bq + 3)) := by rw [mm_g]; rfl
theorem mg4 : (pwGet (mkM bq sc Rq w) bq 7 4).bind kq = kq (.ref (bq + 4)) := by rw [mm_g]; rfl
theorem mg5 : (pwGet (mkM bq sc Rq w) bq 7 5).bind kq = kq (.int (sc 5)) := by rw [mm_g]; rfl
theorem mg6 : (pwGet (mkM bq sc Rq w) bq 7 6).bind kq = kq (.ref (bq + 5)) := by rw [mm_g]; rfl
theorem mg7 : (pwGet (mkM bq sc Rq w) bq 7 7).bind kq = kq (.ref (bq + 6)) := by rw [mm_g]; rfl
theorem mg8 : (pwGet (mkM bq sc Rq w) bq 7 8).bind kq = kq (.ref (bq + 7)) := by rw [mm_g]; rfl
theorem mg9 : (pwGet (mkM bq sc Rq w) bq 7 9).bind kq = kq (.ref (bq + 8)) := by rw [mm_g]; rfl
theorem mg10 : (pwGet (mkM bq sc Rq w) bq 7 10).bind kq = kq (.ref (bq + 9)) := by rw [mm_g]; rfl
theorem mg11 : (pwGet (mkM bq sc Rq w) bq 7 11).bind kq = kq (.int (sc 11)) := by rw [mm_g]; rfl
theorem mg12 : (pwGet (mkM bq sc Rq w) bq 7 12).bind kq = kq (.int (sc 12)) := by rw [mm_g]; rfl
theorem mg13 : (pwGet (mkM bq sc Rq w) bq 7 13).bind kq = kq (.int (sc 13)) := by rw [mm_g]; rfl
theorem mg14 : (pwGet (mkM bq sc Rq w) bq 7 14).bind kq = kq (.int (sc 14)) := by rw [mm_g]; rfl
theorem mp_f {kk : Nat} (h : kk = 0 ∨ kk = 5 ∨ kk = 11 ∨ kk = 12 ∨ kk = 13 ∨ kk = 14) : (pwPut (mkM bq sc Rq w) bq 7 kk (.int vq)).bind hq = hq (mkM bq (upd sc kk vq) Rq w) := by
  have h2 : pwPut (mkM bq sc Rq w) bq 7 kk (.int vq) = some (mkM bq (upd sc kk vq) Rq w) := by
    unfold pwPut; rw [mm_0]
    rcases h with rfl | rfl | rfl | rfl | rfl | rfl <;>
    · show some _ = some _
      congr 1
      funext aq; unfold va_up mkM; by_cases ha : aq = bq
      · simp only [ha, if_true]; rfl
      · simp only [ha, if_false]
  rw [h2]; rfl
theorem mp0 : (pwPut (mkM bq sc Rq w) bq 7 0 (.int vq)).bind hq = hq (mkM bq (upd sc 0 vq) Rq w) := mp_f (by decide)
theorem mp5 : (pwPut (mkM bq sc Rq w) bq 7 5 (.int vq)).bind hq = hq (mkM bq (upd sc 5 vq) Rq w) := mp_f (by decide)
theorem mp11 : (pwPut (mkM bq sc Rq w) bq 7 11 (.int vq)).bind hq = hq (mkM bq (upd sc 11 vq) Rq w) := mp_f (by decide)
theorem mp12 : (pwPut (mkM bq sc Rq w) bq 7 12 (.int vq)).bind hq = hq (mkM bq (upd sc 12 vq) Rq w) := mp_f (by decide)
theorem mp13 : (pwPut (mkM bq sc Rq w) bq 7 13 (.int vq)).bind hq = hq (mkM bq (upd sc 13 vq) Rq w) := mp_f (by decide)
theorem mp14 : (pwPut (mkM bq sc Rq w) bq 7 14 (.int vq)).bind hq = hq (mkM bq (upd sc 14 vq) Rq w) := mp_f (by decide)
theorem ms3 (h : jq ≤ 3) : mSz jq = 221 := if_pos h
theorem ms4 : mSz 4 = 3094 := rfl
theorem ms5 : mSz 5 = 442 := rfl
theorem ms7 : mSz 7 = 10 := rfl
theorem ms8 : mSz 8 = 10 := rfl
theorem ms9 : mSz 9 = 120 := rfl
theorem mSz_le : mSz jq ≤ 3094 := by unfold mSz; split; decide; split; decide; split; decide; split <;> decide
theorem mm_ld {nz : Nat} (h1 : 1 ≤ jq) (h2 : jq < 10) (h6 : jq ≠ 6) (hz : nz = mSz jq) (hi : iq < nz) : (pwLd (mkM bq sc Rq w) (bq + jq) (zN iq)).bind iz = iz (Rq jq iq) := by
  have h3 := @mSz_le jq
  rw [qLd (mm_r h1 h2 h6) (Or.inl rfl) (qIn_of (by omega) (by omega)), zN_nat (by omega)]; rfl
theorem mm_st {nz : Nat} (h1 : 1 ≤ jq) (h2 : jq < 10) (h6 : jq ≠ 6) (hz : nz = mSz jq) (hi : iq < nz) : (pwSt0 (mkM bq sc Rq w) (bq + jq) (zN iq) vq).bind hq = hq (mkM bq sc (va_up Rq jq (upd (Rq jq) iq vq)) w) := by
  have h3 := @mSz_le jq
  rw [qSt (mm_r h1 h2 h6) (qIn_of (by omega) (by omega)), zN_nat (by omega), mm_w h1 h2 h6]; rfl
theorem ml1 (hi : iq < 221) : (pwLd (mkM bq sc Rq w) (bq + 1) (zN iq)).bind iz = iz (Rq 1 iq) := mm_ld (by decide) (by decide) (by decide) rfl hi
theorem ml2 (hi : iq < 221) : (pwLd (mkM bq sc Rq w) (bq + 2) (zN iq)).bind iz = iz (Rq 2 iq) := mm_ld (by decide) (by decide) (by decide) rfl hi
theorem ml3 (hi : iq < 221) : (pwLd (mkM bq sc Rq w) (bq + 3) (zN iq)).bind iz = iz (Rq 3 iq) := mm_ld (by decide) (by decide) (by decide) rfl hi
theorem ml4 (hi : iq < 3094) : (pwLd (mkM bq sc Rq w) (bq + 4) (zN iq)).bind iz = iz (Rq 4 iq) := mm_ld (by decide) (by decide) (by decide) rfl hi
theorem ml5 (hi : iq < 442) : (pwLd (mkM bq sc Rq w) (bq + 5) (zN iq)).bind iz = iz (Rq 5 iq) := mm_ld (by decide) (by decide) (by decide) rfl hi
theorem ml7 (hi : iq < 10) : (pwLd (mkM bq sc Rq w) (bq + 7) (zN iq)).bind iz = iz (Rq 7 iq) := mm_ld (by decide) (by decide) (by decide) rfl hi
theorem ml8 (hi : iq < 10) : (pwLd (mkM bq sc Rq w) (bq + 8) (zN iq)).bind iz = iz (Rq 8 iq) := mm_ld (by decide) (by decide) (by decide) rfl hi
theorem ml9 (hi : iq < 120) : (pwLd (mkM bq sc Rq w) (bq + 9) (zN iq)).bind iz = iz (Rq 9 iq) := mm_ld (by decide) (by decide) (by decide) rfl hi
theorem mlr (h1 : 1 ≤ jq) (h3 : jq ≤ 3) (hi : iq < 221) : (pwLd (mkM bq sc Rq w) (bq + jq) (zN iq)).bind iz = iz (Rq jq iq) := mm_ld h1 (by omega) (by omega) (ms3 h3).symm hi
theorem mt1 (hi : iq < 221) : (pwSt0 (mkM bq sc Rq w) (bq + 1) (zN iq) vq).bind hq = hq (mkM bq sc (va_up Rq 1 (upd (Rq 1) iq vq)) w) := mm_st (by decide) (by decide) (by decide) rfl hi
theorem mt2 (hi : iq < 221) : (pwSt0 (mkM bq sc Rq w) (bq + 2) (zN iq) vq).bind hq = hq (mkM bq sc (va_up Rq 2 (upd (Rq 2) iq vq)) w) := mm_st (by decide) (by decide) (by decide) rfl hi
theorem mt3 (hi : iq < 221) : (pwSt0 (mkM bq sc Rq w) (bq + 3) (zN iq) vq).bind hq = hq (mkM bq sc (va_up Rq 3 (upd (Rq 3) iq vq)) w) := mm_st (by decide) (by decide) (by decide) rfl hi
theorem mt4 (hi : iq < 3094) : (pwSt0 (mkM bq sc Rq w) (bq + 4) (zN iq) vq).bind hq = hq (mkM bq sc (va_up Rq 4 (upd (Rq 4) iq vq)) w) := mm_st (by decide) (by decide) (by decide) rfl hi
theorem mt5 (hi : iq < 442) : (pwSt0 (mkM bq sc Rq w) (bq + 5) (zN iq) vq).bind hq = hq (mkM bq sc (va_up Rq 5 (upd (Rq 5) iq vq)) w) := mm_st (by decide) (by decide) (by decide) rfl hi
theorem mt7 (hi : iq < 10) : (pwSt0 (mkM bq sc Rq w) (bq + 7) (zN iq) vq).bind hq = hq (mkM bq sc (va_up Rq 7 (upd (Rq 7) iq vq)) w) := mm_st (by decide) (by decide) (by decide) rfl hi
theorem mt8 (hi : iq < 10) : (pwSt0 (mkM bq sc Rq w) (bq + 8) (zN iq) vq).bind hq = hq (mkM bq sc (va_up Rq 8 (upd (Rq 8) iq vq)) w) := mm_st (by decide) (by decide) (by decide) rfl hi
theorem mt9 (hi : iq < 120) : (pwSt0 (mkM bq sc Rq w) (bq + 9) (zN iq) vq).bind hq = hq (mkM bq sc (va_up Rq 9 (upd (Rq 9) iq vq)) w) := mm_st (by decide) (by decide) (by decide) rfl hi
theorem mlz (hi : iq < 2) : (pwLdZ (mkM bq sc Rq w) (bq + 6) (zN iq)).bind iz = iz (Rq 6 iq) := by
  have h : pwLdZ (mkM bq sc Rq w) (bq + 6) (zN iq) = some (Rq 6 iq) := by
    unfold pwLdZ; rw [mm_6]
    have h2 := qIn_of hi (show iq < 2147483648 by omega)
    dsimp only
    rw [if_pos ⟨rfl, h2⟩, zN_nat (by omega)]
  rw [h]; rfl
theorem mtz (hi : iq < 2) (hv : vq = zN 0 ∨ vq = zN 1) : (pwStZ (mkM bq sc Rq w) (bq + 6) (zN iq) vq).bind hq = hq (mkM bq sc (va_up Rq 6 (upd (Rq 6) iq vq)) w) := by
  have h : pwStZ (mkM bq sc Rq w) (bq + 6) (zN iq) vq = some (mkM bq sc (va_up Rq 6 (upd (Rq 6) iq vq)) w) := by
    unfold pwStZ; rw [mm_6]
    have h2 := qIn_of hi (show iq < 2147483648 by omega)
    dsimp only
    rw [if_pos ⟨⟨rfl, hv⟩, h2⟩, zN_nat (by omega)]
    congr 1
    funext aq
    by_cases ha : aq = bq + 6
    · subst ha
      rw [va_up_self, mm_6, va_up_self]
    · rw [va_up_ne _ _ ha]
      unfold mkM
      by_cases h3 : aq = bq
      · rw [if_pos h3, if_pos h3]
      · rw [if_neg h3, if_neg h3, if_neg ha, if_neg ha]
        by_cases h5 : bq < aq ∧ aq < bq + 10
        · rw [if_pos h5, if_pos h5, va_up_ne _ _ (by omega)]
        · rw [if_neg h5, if_neg h5]
  rw [h]; rfl
theorem mr_in (h1 : 1 ≤ jq) (h3 : jq ≤ 3) : mkA (bq + jq) 221 (Rq jq) (mkM bq sc Rq w) = mkM bq sc Rq w := by
  funext aq
  by_cases ha : aq = bq + jq
  · subst ha; rw [mkA_s, mm_r h1 (by omega) (by omega), ms3 h3]
  · rw [mkA_o ha]
theorem mr_out {fq : Nat → Int32} (h1 : 1 ≤ jq) (h3 : jq ≤ 3) : mkA (bq + jq) 221 fq (mkM bq sc Rq w) = mkM bq sc (va_up Rq jq fq) w := by
  have := mm_w (bq := bq) (sc := sc) (Rq := Rq) (w := w) (fq := fq) h1 (by omega) (show jq ≠ 6 by omega)
  rw [ms3 h3] at this
  exact this
end QT
