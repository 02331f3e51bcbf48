/-! the pure part: the model's row and the state between; what is drawn -/
def cO : List (Nat × Nat) → Nat → Option Nat
  | [], _ => none
  | eq :: es, cq => if eq.1 = cq then some eq.2 else cO es cq
def oV : Option Nat → Int32
  | none => zM
  | some kq => zN kq
def hiX (xq : Int64) : Int32 := (xq >>> ((zN 32).toInt64 &&& 63)).toInt32
def loX (xq : Int64) : Int32 := xq.toInt32
def lsM (pq : Nat) (ls : List Nat) (fq : Nat → Int32) : Prop := ∀ iq kq, ls[iq]? = some kq → fq (pq + iq) = zN kq
def repMs (Aq : TA) (fq : Nat → Int32) (sq : Nat) : Prop :=
  (fq (44 + 43 * sq) = zN (tN Aq (4 + sq)) ∧ fq (44 + 43 * sq + 1) = zN (tN Aq (8 + sq)) ∧ fq (44 + 43 * sq + 2) = zN (tN Aq (12 + sq)) ∧ fq (44 + 43 * sq + 3) = zN (tN Aq (16 + sq)) ∧ fq (44 + 43 * sq + 4) = zN (tN Aq (20 + sq))) ∧
  (fq (44 + 43 * sq + 5) = zN (tL Aq (4 + sq)).length ∧ lsM (44 + 43 * sq + 6) (tL Aq (4 + sq)) fq) ∧
  (fq (44 + 43 * sq + 12) = zN (tL Aq (8 + sq)).length ∧ lsM (44 + 43 * sq + 13) (tL Aq (8 + sq)) fq) ∧
  ∀ cq, cq < 20 → fq (44 + 43 * sq + 23 + cq) = oV (cO (tC Aq sq) cq)
def repM (Aq : TA) (fq : Nat → Int32) : Prop :=
  (fq 0 = zN (tN Aq 1) ∧ fq 43 = zN (tN Aq 0) ∧ fq 216 = zN (tN Aq 2) ∧ fq 217 = zN (tN Aq 3) ∧ fq 218 = tT Aq ∧ fq 219 = hiX (tX Aq) ∧ fq 220 = loX (tX Aq)) ∧
  (∀ kq, kq < tN Aq 1 → fq (1 + kq) = tE Aq kq ∧ fq (11 + kq) = tK Aq kq) ∧
  (fq 21 = zN (tL Aq 1).length ∧ lsM 22 (tL Aq 1) fq) ∧ (fq 32 = zN (tL Aq 0).length ∧ lsM 33 (tL Aq 0) fq) ∧
  ∀ sq, sq < tN Aq 0 → repMs Aq fq sq
def qDel (fq : Nat → Int32) (lo hi : Nat) : Nat → Int32 := fun jq => if lo ≤ jq ∧ jq < hi then fq (jq + 1) else fq jq
section QD
variable {fq : Nat → Int32} {lo hi jq : Nat} {xq : Int64}
theorem qD_i (h1 : lo ≤ jq) (h2 : jq < hi) : qDel fq lo hi jq = fq (jq + 1) := if_pos ⟨h1, h2⟩
theorem qD_o (h : jq < lo ∨ hi ≤ jq) : qDel fq lo hi jq = fq jq := if_neg (by omega)
theorem qD_0 : qDel fq lo lo = fq := by funext jq; exact qD_o (by omega)
theorem qD_1 (h : lo ≤ hi) : upd (qDel fq lo hi) hi (fq (hi + 1)) = qDel fq lo (hi + 1) := by
  funext jq
  unfold upd
  by_cases h1 : jq = hi
  · subst h1; rw [if_pos rfl, qD_i h (by omega)]
  · rw [if_neg h1]
    by_cases h2 : lo ≤ jq ∧ jq < hi
    · rw [qD_i h2.1 h2.2, qD_i h2.1 (by omega)]
    · rw [qD_o (by omega), qD_o (by omega)]
theorem unJ : ((hiX xq).toInt64 <<< ((zN 32).toInt64 &&& 63)) + ((loX xq).toInt64 &&& 4294967295) = xq := by
  have hc : ((zN 32).toInt64 &&& 63) = 32 := by decide
  unfold hiX loX
  rw [hc]
  apply Int64.toBitVec.inj
  show (((xq.toBitVec.sshiftRight' ((32#64).smod 64#64)).signExtend 32).signExtend 64 <<< ((32#64).smod 64#64)) + ((xq.toBitVec.signExtend 32).signExtend 64 &&& 4294967295#64) = xq.toBitVec
  have h32 : ((32#64).smod 64#64) = 32#64 := by decide
  rw [h32]
  generalize xq.toBitVec = bz
  change ((((bz.sshiftRight 32).signExtend 32).signExtend 64) <<< (32 : Nat)) + ((bz.signExtend 32).signExtend 64 &&& 4294967295#64) = bz
  have hm : ∀ iq : Nat, iq < 64 → (4294967295#64).getLsbD iq = decide (iq < 32) := by decide
  rw [BitVec.add_eq_or_of_and_eq_zero]
  · apply BitVec.eq_of_getLsbD_eq
    intro iq hi
    have hmi := hm iq hi
    simp only [BitVec.getLsbD_or, BitVec.getLsbD_and, BitVec.getLsbD_shiftLeft, BitVec.getLsbD_signExtend, BitVec.getLsbD_sshiftRight, hmi]
    by_cases h : iq < 32
    · have h4 : ¬ (64 ≤ iq) := by omega
      simp only [h, hi, decide_true, decide_false, Bool.and_true, Bool.true_and, Bool.not_true, Bool.false_and, Bool.and_false, Bool.false_or, if_true]
    · have h2 : iq - 32 < 32 := by omega
      have h3 : 32 + (iq - 32) = iq := by omega
      have h5 : iq - 32 < 64 := by omega
      have h4 : ¬ (64 ≤ iq - 32) := by omega
      simp only [h, hi, h2, h3, h4, h5, decide_true, decide_false, Bool.and_true, Bool.true_and, Bool.not_true, Bool.not_false, Bool.false_and, Bool.and_false, Bool.false_or, Bool.or_false, if_true]
  · apply BitVec.eq_of_getLsbD_eq
    intro iq hi
    have hmi := hm iq hi
    simp only [BitVec.getLsbD_and, BitVec.getLsbD_shiftLeft, hmi]
    by_cases h : iq < 32
    · simp only [h, hi, decide_true, decide_false, Bool.and_true, Bool.true_and, Bool.not_true, Bool.false_and, Bool.and_false, BitVec.getLsbD_zero]
    · simp only [h, hi, decide_true, decide_false, Bool.and_true, Bool.true_and, Bool.not_true, Bool.false_and, Bool.and_false, BitVec.getLsbD_zero]
end QD
