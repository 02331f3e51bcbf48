/-! the pure part: numbers: zN p is the int of a natural number p (below 2^31 where it matters) -/
def zN (pq : Nat) : Int32 := Int32.ofNat pq
/-- none -/
def zM : Int32 := -1
section QN
variable {aq bq : Nat}
theorem zN_toInt (h : aq < 2147483648) : (zN aq).toInt = (aq : Int) := Int32.toInt_ofNat_of_lt h
theorem zN_nat (h : aq < 2147483648) : (zN aq).toNatClampNeg = aq := Int32.toNatClampNeg_ofNat_of_lt h
theorem zN_add : zN aq + zN bq = zN (aq + bq) := (Int32.ofNat_add aq bq).symm
theorem zN_mul : zN aq * zN bq = zN (aq * bq) := (Int32.ofNat_mul aq bq).symm
theorem zN_sub (h : bq ≤ aq) : zN aq - zN bq = zN (aq - bq) := (Int32.ofNat_sub aq bq h).symm
theorem zN_lt (ha : aq < 2147483648) (hb : bq < 2147483648) : (zN aq < zN bq) = (aq < bq) := by
  rw [Int32.lt_iff_toInt_lt, zN_toInt ha, zN_toInt hb]; exact propext (by omega)
theorem zN_le (ha : aq < 2147483648) (hb : bq < 2147483648) : (zN aq ≤ zN bq) = (aq ≤ bq) := by
  rw [Int32.le_iff_toInt_le, zN_toInt ha, zN_toInt hb]; exact propext (by omega)
theorem zN_eq (ha : aq < 2147483648) (hb : bq < 2147483648) : (zN aq = zN bq) = (aq = bq) := by
  rw [← Int32.toInt_inj, zN_toInt ha, zN_toInt hb]; exact propext (by omega)
theorem zN_ge0 (ha : aq < 2147483648) : (zN 0 ≤ zN aq) = True := by rw [zN_le (by decide) ha]; exact eq_true (Nat.zero_le _)
theorem zN_lt0 (ha : aq < 2147483648) : (zN aq < zN 0) = False := by rw [zN_lt ha (by decide)]; exact eq_false (Nat.not_lt_zero _)
theorem zN_nm (ha : aq < 2147483648) : (zN aq = zM) = False := eq_false fun h => by
  have h1 := congrArg Int32.toInt h; rw [zN_toInt ha] at h1; have h2 : zM.toInt = -1 := by decide
  omega
theorem zN_mn (ha : aq < 2147483648) : (zM = zN aq) = False := eq_false fun h => of_eq_true ((zN_nm ha).symm.trans (eq_true h.symm)) |> False.elim
theorem zN_mlt (ha : aq < 2147483648) : (zM < zN aq) = True := eq_true (by
  rw [Int32.lt_iff_toInt_lt, zN_toInt ha]; have h2 : zM.toInt = -1 := by decide
  omega)
theorem zN_ltm (ha : aq < 2147483648) : (zN aq < zM) = False := eq_false (by
  rw [Int32.lt_iff_toInt_lt, zN_toInt ha]; have h2 : zM.toInt = -1 := by decide
  omega)
theorem zN_lem (ha : aq < 2147483648) : (zN aq ≤ zM) = False := eq_false (by
  rw [Int32.le_iff_toInt_le, zN_toInt ha]; have h2 : zM.toInt = -1 := by decide
  omega)
theorem zN_mle (ha : aq < 2147483648) : (zM ≤ zN aq) = True := eq_true (by
  rw [Int32.le_iff_toInt_le, zN_toInt ha]; have h2 : zM.toInt = -1 := by decide
  omega)
theorem zN_m1 : zN 0 - zN 1 = zM := by decide
theorem zN_m2 : zM + zN 1 = zN 0 := by decide
theorem zN_div (ha : aq < 2147483648) (hb : bq < 2147483648) : zN aq / zN bq = zN (aq / bq) := (Int32.ofNat_div ha hb).symm
theorem zN_rem (ha : aq < 2147483648) (hb : bq < 2147483648) : zN aq - zN aq / zN bq * zN bq = zN (aq % bq) := by
  rw [zN_div ha hb, zN_mul, zN_sub (Nat.div_mul_le_self aq bq)]
  congr 1
  have := Nat.div_add_mod aq bq
  rw [Nat.mul_comm] at this
  omega
theorem zN_addm (h : 1 ≤ aq) : zN aq + zM = zN (aq - 1) := by
  obtain ⟨bq, rfl⟩ : ∃ bq, aq = bq + 1 := ⟨aq - 1, by omega⟩
  rw [Nat.add_sub_cancel, ← zN_add, Int32.add_assoc, show zN 1 + zM = 0 by decide, Int32.add_zero]
theorem zN_neg1 : -zN 1 = zM := by decide
theorem zN_ofNat : Int32.ofNat aq = zN aq := rfl
theorem zN_beq (ha : aq < 2147483648) (hb : bq < 2147483648) : (zN aq == zN bq) = decide (aq = bq) := by
  rw [Bool.eq_iff_iff, beq_iff_eq, decide_eq_true_iff, zN_eq ha hb]
theorem nL0 : (0 : Int32) = zN 0 := rfl
theorem nL1 : (1 : Int32) = zN 1 := rfl
theorem nL2 : (2 : Int32) = zN 2 := rfl
theorem nL3 : (3 : Int32) = zN 3 := rfl
theorem nL4 : (4 : Int32) = zN 4 := rfl
theorem nL5 : (5 : Int32) = zN 5 := rfl
theorem nL6 : (6 : Int32) = zN 6 := rfl
theorem nL7 : (7 : Int32) = zN 7 := rfl
theorem nL8 : (8 : Int32) = zN 8 := rfl
theorem nL9 : (9 : Int32) = zN 9 := rfl
theorem nL10 : (10 : Int32) = zN 10 := rfl
theorem nL11 : (11 : Int32) = zN 11 := rfl
theorem nL12 : (12 : Int32) = zN 12 := rfl
theorem nL13 : (13 : Int32) = zN 13 := rfl
theorem nL14 : (14 : Int32) = zN 14 := rfl
theorem nL20 : (20 : Int32) = zN 20 := rfl
theorem nL21 : (21 : Int32) = zN 21 := rfl
theorem nL22 : (22 : Int32) = zN 22 := rfl
theorem nL23 : (23 : Int32) = zN 23 := rfl
theorem nL25 : (25 : Int32) = zN 25 := rfl
theorem nL32 : (32 : Int32) = zN 32 := rfl
theorem nL33 : (33 : Int32) = zN 33 := rfl
theorem nL39 : (39 : Int32) = zN 39 := rfl
theorem nL40 : (40 : Int32) = zN 40 := rfl
theorem nL43 : (43 : Int32) = zN 43 := rfl
theorem nL44 : (44 : Int32) = zN 44 := rfl
theorem nL99 : (99 : Int32) = zN 99 := rfl
theorem nL100 : (100 : Int32) = zN 100 := rfl
theorem nL120 : (120 : Int32) = zN 120 := rfl
theorem nL216 : (216 : Int32) = zN 216 := rfl
theorem nL217 : (217 : Int32) = zN 217 := rfl
theorem nL218 : (218 : Int32) = zN 218 := rfl
theorem nL219 : (219 : Int32) = zN 219 := rfl
theorem nL220 : (220 : Int32) = zN 220 := rfl
theorem nL221 : (221 : Int32) = zN 221 := rfl
theorem nL500 : (500 : Int32) = zN 500 := rfl
theorem nL999 : (999 : Int32) = zN 999 := rfl
theorem nL1000 : (1000 : Int32) = zN 1000 := rfl
theorem nL10000 : (10000 : Int32) = zN 10000 := rfl
theorem nL100000 : (100000 : Int32) = zN 100000 := rfl
theorem qT_lt (h : aq < bq) : (aq < bq) = True := eq_true h
theorem qF_lt (h : bq ≤ aq) : (aq < bq) = False := eq_false (by omega)
theorem qT_le (h : aq ≤ bq) : (aq ≤ bq) = True := eq_true h
theorem qF_le (h : bq < aq) : (aq ≤ bq) = False := eq_false (by omega)
theorem qT_eq (h : aq = bq) : (aq = bq) = True := eq_true h
theorem qF_eq (h : aq < bq ∨ bq < aq) : (aq = bq) = False := eq_false (by omega)
variable {fq : Nat → Int32} {vq : Int32} {nq : Nat}
theorem qRd_in (h : aq < nq) (h2 : aq < 2147483648) : qRd nq fq (zN aq) = fq aq := by
  unfold qRd
  rw [if_pos ⟨of_eq_true (zN_ge0 h2), by rw [zN_nat h2]; exact h⟩, zN_nat h2]
theorem qRd_out (h : nq ≤ aq) (h2 : aq < 2147483648) : qRd nq fq (zN aq) = zM := by
  unfold qRd
  rw [if_neg (fun hc => by have := hc.2; rw [zN_nat h2] at this; omega)]; rfl
theorem qRd_m : qRd nq fq zM = zM := by
  unfold qRd
  rw [if_neg (fun hc => absurd hc.1 (by decide))]; rfl
theorem qWr_in (h : aq < nq) (h2 : aq < 2147483648) : qWr nq fq (zN aq) vq = upd fq aq vq := by
  unfold qWr
  rw [if_pos ⟨of_eq_true (zN_ge0 h2), by rw [zN_nat h2]; exact h⟩, zN_nat h2]
theorem qIn_of (h : aq < nq) (h2 : aq < 2147483648) : qIn nq (zN aq) := ⟨of_eq_true (zN_ge0 h2), by rw [zN_nat h2]; exact h⟩
theorem qU_s : upd fq aq vq aq = vq := if_pos rfl
theorem qU_n (h : bq ≠ aq) : upd fq aq vq bq = fq bq := if_neg h
theorem qV_s {αq : Type} {hq : Nat → αq} {uq : αq} : va_up hq aq uq aq = uq := va_up_self hq aq uq
theorem qV_n {αq : Type} {hq : Nat → αq} {uq : αq} (h : bq ≠ aq) : va_up hq aq uq bq = hq bq := va_up_ne hq uq h
theorem qz4 {jq : Nat} (h : jq ≤ 7) : qSz jq = 4 := if_pos h
theorem qz40 : qSz 8 = 40 := rfl
theorem qz10 {jq : Nat} (h : 9 ≤ jq) : qSz jq = 10 := by unfold qSz; rw [if_neg (by omega), if_neg (by omega)]
end QN
section QT2
variable {bq : Nat} {xq : Int64} {sc : Nat → Int32} {Rq : Nat → Nat → Int32} {w : pwW} {αq : Type} {kq : Value → Option αq} {hq : pwW → Option αq} {vq : Int32} {uq : Int64}
theorem tg0 : (pwGet (mkT bq xq sc Rq w) bq 4 0).bind kq = kq (.ref (bq + 1)) := by rw [mkT_g]; rfl
theorem tg1 : (pwGet (mkT bq xq sc Rq w) bq 4 1).bind kq = kq (.int (sc 1)) := by rw [mkT_g]; rfl
theorem tg2 : (pwGet (mkT bq xq sc Rq w) bq 4 2).bind kq = kq (.int (sc 2)) := by rw [mkT_g]; rfl
theorem tg3 : (pwGet (mkT bq xq sc Rq w) bq 4 3).bind kq = kq (.int (sc 3)) := by rw [mkT_g]; rfl
theorem tg4 : (pwGet (mkT bq xq sc Rq w) bq 4 4).bind kq = kq (.int (sc 4)) := by rw [mkT_g]; rfl
theorem tg5 : (pwGet (mkT bq xq sc Rq w) bq 4 5).bind kq = kq (.long xq) := by rw [mkT_g]; rfl
theorem tg6 : (pwGet (mkT bq xq sc Rq w) bq 4 6).bind kq = kq (.ref (bq + 9)) := by rw [mkT_g]; rfl
theorem tg7 : (pwGet (mkT bq xq sc Rq w) bq 4 7).bind kq = kq (.ref (bq + 10)) := by rw [mkT_g]; rfl
theorem tg8 : (pwGet (mkT bq xq sc Rq w) bq 4 8).bind kq = kq (.ref (bq + 11)) := by rw [mkT_g]; rfl
theorem tg9 : (pwGet (mkT bq xq sc Rq w) bq 4 9).bind kq = kq (.ref (bq + 12)) := by rw [mkT_g]; rfl
theorem tg10 : (pwGet (mkT bq xq sc Rq w) bq 4 10).bind kq = kq (.ref (bq + 13)) := by rw [mkT_g]; rfl
theorem tg11 : (pwGet (mkT bq xq sc Rq w) bq 4 11).bind kq = kq (.ref (bq + 14)) := by rw [mkT_g]; rfl
theorem ts0 : (pwGet (mkT bq xq sc Rq w) (bq + 1) 3 0).bind kq = kq (.int (sc 0)) := by rw [mkT_gs]; rfl
theorem ts1 : (pwGet (mkT bq xq sc Rq w) (bq + 1) 3 1).bind kq = kq (.ref (bq + 2)) := by rw [mkT_gs]; rfl
theorem ts2 : (pwGet (mkT bq xq sc Rq w) (bq + 1) 3 2).bind kq = kq (.ref (bq + 3)) := by rw [mkT_gs]; rfl
theorem ts3 : (pwGet (mkT bq xq sc Rq w) (bq + 1) 3 3).bind kq = kq (.ref (bq + 4)) := by rw [mkT_gs]; rfl
theorem ts4 : (pwGet (mkT bq xq sc Rq w) (bq + 1) 3 4).bind kq = kq (.ref (bq + 5)) := by rw [mkT_gs]; rfl
theorem ts5 : (pwGet (mkT bq xq sc Rq w) (bq + 1) 3 5).bind kq = kq (.ref (bq + 6)) := by rw [mkT_gs]; rfl
theorem ts6 : (pwGet (mkT bq xq sc Rq w) (bq + 1) 3 6).bind kq = kq (.ref (bq + 7)) := by rw [mkT_gs]; rfl
theorem ts7 : (pwGet (mkT bq xq sc Rq w) (bq + 1) 3 7).bind kq = kq (.ref (bq + 8)) := by rw [mkT_gs]; rfl
theorem tp_x : (pwPut (mkT bq xq sc Rq w) bq 4 5 (.long uq)).bind hq = hq (mkT bq uq sc Rq w) := by
  have h : pwPut (mkT bq xq sc Rq w) bq 4 5 (.long uq) = some (mkT bq uq sc Rq w) := by
    unfold pwPut; rw [mkT_0]
    show some _ = some _
    congr 1
    funext aq; unfold va_up mkT; by_cases ha : aq = bq
    · simp only [ha, if_true]; rfl
    · simp only [ha, if_false]
  rw [h]; rfl
theorem tp_f {kk : Nat} (h1 : 1 ≤ kk) (h2 : kk ≤ 4) : (pwPut (mkT bq xq sc Rq w) bq 4 kk (.int vq)).bind hq = hq (mkT bq xq (upd sc kk vq) Rq w) := by
  have h : pwPut (mkT bq xq sc Rq w) bq 4 kk (.int vq) = some (mkT bq xq (upd sc kk vq) Rq w) := by
    have h3 : kk = 1 ∨ kk = 2 ∨ kk = 3 ∨ kk = 4 := by omega
    unfold pwPut; rw [mkT_0]
    rcases h3 with rfl | rfl | rfl | rfl <;>
    · show some _ = some _
      congr 1
      funext aq; unfold va_up mkT; by_cases ha : aq = bq
      · simp only [ha, if_true]; rfl
      · simp only [ha, if_false]
        by_cases hb : aq = bq + 1
        · simp only [hb, if_true]; rfl
        · simp only [hb, if_false]
  rw [h]; rfl
theorem tp1 : (pwPut (mkT bq xq sc Rq w) bq 4 1 (.int vq)).bind hq = hq (mkT bq xq (upd sc 1 vq) Rq w) := tp_f (by decide) (by decide)
theorem tp2 : (pwPut (mkT bq xq sc Rq w) bq 4 2 (.int vq)).bind hq = hq (mkT bq xq (upd sc 2 vq) Rq w) := tp_f (by decide) (by decide)
theorem tp3 : (pwPut (mkT bq xq sc Rq w) bq 4 3 (.int vq)).bind hq = hq (mkT bq xq (upd sc 3 vq) Rq w) := tp_f (by decide) (by decide)
theorem tp4 : (pwPut (mkT bq xq sc Rq w) bq 4 4 (.int vq)).bind hq = hq (mkT bq xq (upd sc 4 vq) Rq w) := tp_f (by decide) (by decide)
theorem tps : (pwPut (mkT bq xq sc Rq w) (bq + 1) 3 0 (.int vq)).bind hq = hq (mkT bq xq (upd sc 0 vq) Rq w) := by
  have h : pwPut (mkT bq xq sc Rq w) (bq + 1) 3 0 (.int vq) = some (mkT bq xq (upd sc 0 vq) Rq w) := by
    unfold pwPut; rw [mkT_1]
    show some _ = some _
    congr 1
    funext aq; unfold va_up mkT; by_cases ha : aq = bq + 1
    · simp only [ha, if_true]; rw [if_neg (by omega)]; rfl
    · simp only [ha, if_false]
      by_cases hb : aq = bq
      · simp only [hb, if_true]; rfl
      · simp only [hb, if_false]
  rw [h]; rfl
end QT2
section QL
variable {g : pwG} {w : pwW}
theorem qiT {Pq : Prop} [Decidable Pq] (h : Pq) : some ((.inl (some (.int (zN 1))), g, w) : pwO) = some (.inl (some (.int (if Pq then zN 1 else zN 0))), g, w) := by rw [if_pos h]
theorem qiF {Pq : Prop} [Decidable Pq] (h : ¬ Pq) : some ((.inl (some (.int (zN 0))), g, w) : pwO) = some (.inl (some (.int (if Pq then zN 1 else zN 0))), g, w) := by rw [if_neg h]
theorem qi0 {Pq : Prop} [Decidable Pq] : ((if Pq then zN 1 else zN 0) = zN 0) = ¬ Pq := by
  by_cases h : Pq
  · rw [if_pos h]; exact propext ⟨fun hh => absurd hh (by decide), fun hh => absurd h hh⟩
  · rw [if_neg h]; exact propext ⟨fun _ => h, fun _ => rfl⟩
theorem qi1 {Pq : Prop} [Decidable Pq] : ((if Pq then zN 1 else zN 0) = zN 1) = Pq := by
  by_cases h : Pq
  · rw [if_pos h]; exact propext ⟨fun _ => h, fun _ => rfl⟩
  · rw [if_neg h]; exact propext ⟨fun hh => absurd hh (by decide), fun hh => absurd hh h⟩
theorem qbi {Pq : Prop} [Decidable Pq] {αq : Type} {uq vq : αq} : (bif (if Pq then zN 1 else zN 0) == zN 0 || (if Pq then zN 1 else zN 0) == zN 1 then uq else vq) = uq := by
  by_cases h : Pq
  · rw [if_pos h]; rfl
  · rw [if_neg h]; rfl
theorem qb1 {αq : Type} {uq vq : αq} : (bif zN 1 == zN 0 || zN 1 == zN 1 then uq else vq) = uq := rfl
theorem qb0 {αq : Type} {uq vq : αq} : (bif zN 0 == zN 0 || zN 0 == zN 1 then uq else vq) = uq := rfl
theorem qEqI {xq yq : Int32} : (xq = yq) = (xq.toInt = yq.toInt) := propext Int32.toInt_inj.symm
theorem qLtI {xq yq : Int32} : (xq < yq) = (xq.toInt < yq.toInt) := propext Int32.lt_iff_toInt_lt
theorem qLeI {xq yq : Int32} : (xq ≤ yq) = (xq.toInt ≤ yq.toInt) := propext Int32.le_iff_toInt_le
theorem qM1I : zM.toInt = -1 := by decide
theorem nat_rem {aq bq : Nat} : aq - aq / bq * bq = aq % bq := by
  have := Nat.div_add_mod aq bq
  rw [Nat.mul_comm] at this
  omega
end QL
section QM
theorem qV_vv {αq : Type} {hq : Nat → αq} {aq : Nat} {uq vq : αq} : va_up (va_up hq aq uq) aq vq = va_up hq aq vq := by
  funext jq; unfold va_up; split <;> rfl
/-- what is drawn from the long x, before the remainder -/
def dr (xq : Int64) : Nat := xq.toUInt64.toNat / 8589934592
theorem dr_lt {xq : Int64} : dr xq < 2147483648 := by
  have h := xq.toUInt64.toNat_lt
  unfold dr; omega
theorem sh33 {xq : Int64} : ((xq.toUInt64 >>> ((zN 33).toInt64.toUInt64 &&& Int64.toUInt64 63)).toInt64).toInt32 = zN (dr xq) := by
  have h1 : ((zN 33).toInt64.toUInt64 &&& Int64.toUInt64 63) = 33 := by decide
  rw [h1]
  apply Int32.toBitVec.inj
  show ((xq.toUInt64 >>> 33).toBitVec).signExtend 32 = BitVec.ofNat 32 (dr xq)
  rw [BitVec.signExtend_eq_setWidth_of_le _ (by decide)]
  apply BitVec.eq_of_toNat_eq
  rw [BitVec.toNat_setWidth, BitVec.toNat_ofNat]
  congr 1
  show (xq.toUInt64 >>> 33).toNat = dr xq
  rw [UInt64.toNat_shiftRight]
  show xq.toUInt64.toNat >>> 33 = dr xq
  rw [Nat.shiftRight_eq_div_pow]
  rfl
end QM
section QP
theorem zN_le1 {aq bq : Nat} (h : 1 ≤ aq) (ha : aq < 2147483648) (hb : bq < 2147483648) : (zN aq - zN 1 ≤ zN bq) = (aq ≤ bq + 1) := by
  rw [zN_sub h, zN_le (by omega) hb]; exact propext (by omega)
end QP
