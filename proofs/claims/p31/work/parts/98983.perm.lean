/-! the pure part: permutations: wrong pairs, exchanges, the longest rising line -/
theorem zN_ltT {aq bq : Nat} (ha : aq < 2147483648) (hb : bq < 2147483648) : (zN aq < zN bq) ↔ aq < bq := by rw [zN_lt ha hb]
abbrev inj9 (fz : Nat → Nat) (nq : Nat) : Prop := (∀ iq jq, iq < nq → jq < nq → fz iq = fz jq → iq = jq) ∧ ∀ iq, iq < nq → fz iq < nq
section QK
variable {fz : Nat → Nat} {nq : Nat}
theorem pf_ex {fq : Nat → Bool} : ∀ mq, 0 < qC fq mq → ∃ jq, jq < mq ∧ fq jq = true
  | 0, h => absurd h (Nat.lt_irrefl 0)
  | mq + 1, h => by
    by_cases hb : fq mq = true
    · exact ⟨mq, Nat.lt_succ_self _, hb⟩
    · have h1 : qC fq (mq + 1) = qC fq mq := by
        show qC fq mq + (if fq mq = true then 1 else 0) = qC fq mq
        rw [if_neg hb]; rfl
      obtain ⟨jq, a, b⟩ := pf_ex mq (by rw [h1] at h; exact h)
      exact ⟨jq, by omega, b⟩
theorem pf_one (h : inj9 fz nq) {xq : Nat} : ∀ mq, mq ≤ nq → qC (fun jq => decide (fz jq = xq)) mq ≤ 1
  | 0, _ => Nat.zero_le _
  | mq + 1, hm => by
    have ih := pf_one h (xq := xq) mq (by omega)
    unfold qC
    by_cases hb : fz mq = xq
    · have h0 : ¬ 0 < qC (fun jq => decide (fz jq = xq)) mq := fun h9 => by
        obtain ⟨jq, a, b⟩ := pf_ex mq h9
        have b := of_decide_eq_true b
        have := h.1 jq mq (by omega) (by omega) (by rw [b, hb])
        omega
      split <;> omega
    · rw [if_neg (by rw [decide_eq_true_iff]; exact hb)]; exact ih
theorem pf_step {xq : Nat} : ∀ mq, qC (fun jq => decide (fz jq < xq + 1)) mq ≤ qC (fun jq => decide (fz jq < xq)) mq + qC (fun jq => decide (fz jq = xq)) mq
  | 0 => Nat.le_refl _
  | mq + 1 => by
    have ih := pf_step (xq := xq) mq
    unfold qC
    by_cases h1 : fz mq < xq
    · rw [if_pos (decide_eq_true (by omega)), if_pos (decide_eq_true h1)]; omega
    · by_cases h2 : fz mq = xq
      · rw [if_pos (decide_eq_true (by omega)), if_neg (by rw [decide_eq_true_iff]; exact h1), if_pos (decide_eq_true h2)]; omega
      · rw [if_neg (by rw [decide_eq_true_iff]; omega)]; omega
theorem pf_all {fq : Nat → Bool} : ∀ mq, (∀ jq, jq < mq → fq jq = true) → qC fq mq = mq
  | 0, _ => rfl
  | mq + 1, h => by unfold qC; rw [pf_all mq (fun jq hj => h jq (by omega)), if_pos (h mq (Nat.lt_succ_self _))]
theorem pf_none {fq : Nat → Bool} : ∀ mq, (∀ jq, jq < mq → fq jq = false) → qC fq mq = 0
  | 0, _ => rfl
  | mq + 1, h => by unfold qC; rw [pf_none mq (fun jq hj => h jq (by omega)), h mq (Nat.lt_succ_self _)]; rfl
theorem pf_mono {fq hq : Nat → Bool} : ∀ mq, (∀ jq, jq < mq → fq jq = true → hq jq = true) → qC fq mq ≤ qC hq mq
  | 0, _ => Nat.le_refl _
  | mq + 1, h => by
    have ih := pf_mono mq (fun jq hj => h jq (by omega))
    unfold qC
    by_cases hb : fq mq = true
    · rw [if_pos hb, if_pos (h mq (Nat.lt_succ_self _) hb)]; omega
    · rw [if_neg hb]; omega
/-- as many of a permutation lie below x as x says -/
theorem pf_cnt (h : inj9 fz nq) {xq : Nat} (hx : xq ≤ nq) : qC (fun jq => decide (fz jq < xq)) nq = xq := by
  have hs : ∀ y9, qC (fun jq => decide (fz jq < y9 + 1)) nq ≤ qC (fun jq => decide (fz jq < y9)) nq + 1 := fun y9 => by
    have := pf_step (fz := fz) (xq := y9) nq
    have := pf_one h (xq := y9) nq (Nat.le_refl _)
    omega
  have h0 : qC (fun jq => decide (fz jq < 0)) nq = 0 := pf_none nq (fun jq _ => decide_eq_false (by omega))
  have hn : qC (fun jq => decide (fz jq < nq)) nq = nq := pf_all nq (fun jq hj => decide_eq_true (h.2 jq hj))
  have hu : ∀ y9, qC (fun jq => decide (fz jq < y9)) nq ≤ y9 := by
    intro y9
    induction y9 with
    | zero => rw [h0]; exact Nat.le_refl _
    | succ y9 ih => have := hs y9; omega
  have hd : ∀ d9 y9, y9 + d9 = nq → y9 ≤ qC (fun jq => decide (fz jq < y9)) nq := by
    intro d9
    induction d9 with
    | zero => intro y9 h9; have h9 : y9 = nq := h9; subst h9; rw [hn]; exact Nat.le_refl _
    | succ d9 ih =>
      intro y9 h9
      have := ih (y9 + 1) (by omega)
      have := hs y9
      omega
  have := hu xq
  have := hd (nq - xq) xq (by omega)
  omega
theorem pf_in (hb : ∀ jq, jq < nq → fz jq < 2147483648) {iq : Nat} (hi : iq < nq) : ∀ mq, mq ≤ nq → qC (fun jq => decide (fz jq < fz iq)) mq ≤ min mq iq + pIn (fun jq => zN (fz jq)) iq mq
  | 0, _ => Nat.zero_le _
  | mq + 1, hm => by
    have ih := pf_in hb hi mq (by omega)
    unfold qC pIn
    by_cases h1 : fz mq < fz iq
    · rw [if_pos (decide_eq_true h1)]
      by_cases h2 : mq < iq
      · omega
      · have h3 : mq ≠ iq := fun h9 => by subst h9; omega
        rw [if_pos ⟨by omega, (zN_ltT (hb mq (by omega)) (hb iq hi)).mpr h1⟩]
        omega
    · rw [if_neg (by rw [decide_eq_true_iff]; exact h1)]
      split <;> omega
/-- a walker stands at most so far beyond its place as it has wrong pairs behind it -/
theorem pf_exc (h : inj9 fz nq) (hb : nq < 2147483648) {iq : Nat} (hi : iq < nq) : fz iq ≤ iq + pIn (fun jq => zN (fz jq)) iq nq := by
  have h1 := pf_in (fz := fz) (nq := nq) (fun jq hj => by have := h.2 jq hj; omega) hi nq (Nat.le_refl _)
  rw [pf_cnt h (by have := h.2 iq hi; omega)] at h1
  omega
theorem pf_sm {nz : Nat} {fq : Nat → Int32} : ∀ iq, pOut fq nz iq = sm (fun jq => pIn fq jq nz) iq
  | 0 => rfl
  | iq + 1 => by unfold pOut sm; rw [pf_sm iq]
theorem pf_smle {az bz : Nat → Nat} : ∀ mq, (∀ jq, jq < mq → az jq ≤ bz jq) → sm az mq ≤ sm bz mq
  | 0, _ => Nat.le_refl _
  | mq + 1, h => by
    have := pf_smle mq (fun jq hj => h jq (by omega))
    have := h mq (Nat.lt_succ_self _)
    unfold sm; omega
theorem pf_sm0 {az : Nat → Nat} : ∀ mq, sm az mq = 0 → ∀ jq, jq < mq → az jq = 0
  | 0, _, jq, hj => absurd hj (Nat.not_lt_zero _)
  | mq + 1, h, jq, hj => by
    unfold sm at h
    by_cases h1 : jq = mq
    · subst h1; omega
    · exact pf_sm0 mq (by omega) jq (by omega)
/-- identity: no wrong pair -/
theorem pf_le_id (h : inj9 fz nq) (hl : ∀ iq, iq < nq → fz iq ≤ iq) : ∀ iq, iq < nq → fz iq = iq := by
  intro iq
  induction iq using Nat.strongRecOn with
  | _ iq ih =>
    intro hi
    have h1 := hl iq hi
    by_cases h2 : fz iq = iq
    · exact h2
    · have h3 := ih (fz iq) (by omega) (by omega)
      have h4 := h.1 (fz iq) iq (by omega) hi h3
      omega
theorem pf_wr_id (h : inj9 fz nq) (hb : nq < 2147483648) (hw : pOut (fun jq => zN (fz jq)) nq nq = 0) : ∀ iq, iq < nq → fz iq = iq := by
  refine pf_le_id h fun iq hi => ?_
  rw [pf_sm] at hw
  have h1 := pf_sm0 nq hw iq hi
  have h2 := pf_exc h hb hi
  have h1 : pIn (fun jq => zN (fz jq)) iq nq = 0 := h1
  omega
theorem pf_in_z {iq : Nat} (hb : ∀ jq, jq < nq → fz jq < 2147483648) (hr : ∀ jq, iq < jq → jq < nq → fz iq ≤ fz jq) (hi : iq < nq) : ∀ mq, mq ≤ nq → pIn (fun jq => zN (fz jq)) iq mq = 0
  | 0, _ => rfl
  | mq + 1, hm => by
    unfold pIn
    rw [pf_in_z hb hr hi mq (by omega), if_neg]
    rintro ⟨h1, h2⟩
    have h3 := (zN_ltT (hb mq (by omega)) (hb iq hi)).mp h2
    have := hr mq h1 (by omega)
    omega
theorem pf_sm00 {az : Nat → Nat} : ∀ mq, (∀ jq, jq < mq → az jq = 0) → sm az mq = 0
  | 0, _ => rfl
  | mq + 1, h => by unfold sm; rw [pf_sm00 mq (fun jq hj => h jq (by omega)), h mq (Nat.lt_succ_self _)]
theorem pf_up_wr (hb : ∀ jq, jq < nq → fz jq < 2147483648) (hr : ∀ iq jq, iq < jq → jq < nq → fz iq ≤ fz jq) : pOut (fun jq => zN (fz jq)) nq nq = 0 := by
  rw [pf_sm]
  exact pf_sm00 nq fun iq hi => pf_in_z hb (fun jq h1 h2 => hr iq jq h1 h2) hi nq (Nat.le_refl _)
-- rings
theorem pf_cyI {Pq : Nat → Prop} (hc : ∀ xq, Pq xq → Pq (fz xq)) : ∀ dq mq pl, (∀ xq, mq.testBit xq = true → Pq xq) → Pq pl → ∀ xq, (cyI fz dq mq pl).testBit xq = true → Pq xq
  | 0, _, _, h, _, xq, hx => h xq hx
  | dq + 1, mq, pl, h, hp, xq, hx => by
    unfold cyI at hx
    split at hx
    · exact h xq hx
    · refine pf_cyI hc dq _ _ (fun y9 hy => ?_) (hc pl hp) xq hx
      rw [Nat.testBit_or, Bool.or_eq_true] at hy
      rcases hy with hy | hy
      · exact h y9 hy
      · rw [Nat.testBit_two_pow, decide_eq_true_iff] at hy
        exact hy ▸ hp
theorem pf_cyO {Pq : Nat → Prop} (hc : ∀ xq, Pq xq → Pq (fz xq)) {nz : Nat} : ∀ sq, (∀ xq, xq < sq → Pq xq) → ∀ xq, (cyO fz nz sq).1.testBit xq = true → Pq xq
  | 0, _, xq, hx => by
    have hx : (0 : Nat).testBit xq = true := hx
    rw [Nat.zero_testBit] at hx; cases hx
  | sq + 1, h, xq, hx => pf_cyI hc nz _ _ (pf_cyO hc sq (fun y9 hy => h y9 (by omega))) (h sq (Nat.lt_succ_self _)) xq hx
def crs (fz : Nat → Nat) (xq : Nat) : Nat → Bool
  | 0 => false
  | iq + 1 => crs fz xq iq || decide (xq ≤ fz iq)
theorem crs_t {xq : Nat} : ∀ mq, crs fz xq mq = true → ∃ iq, iq < mq ∧ xq ≤ fz iq
  | 0, h => by cases h
  | mq + 1, h => by
    unfold crs at h
    rw [Bool.or_eq_true] at h
    rcases h with h | h
    · obtain ⟨iq, a, b⟩ := crs_t mq h
      exact ⟨iq, by omega, b⟩
    · exact ⟨mq, Nat.lt_succ_self _, of_decide_eq_true h⟩
theorem crs_f {xq : Nat} : ∀ mq, crs fz xq mq = false → ∀ iq, iq < mq → fz iq < xq
  | 0, _, iq, hi => absurd hi (Nat.not_lt_zero _)
  | mq + 1, h, iq, hi => by
    unfold crs at h
    rw [Bool.or_eq_false_iff] at h
    by_cases h1 : iq = mq
    · subst h1
      have := of_decide_eq_false h.2
      omega
    · exact crs_f mq h.1 iq (by omega)
theorem pf_bit {nz sq : Nat} (h : (cyO fz nz sq).1.testBit sq = true) : crs fz sq sq = true := by
  cases hc : crs fz sq sq with
  | true => rfl
  | false =>
    have h1 := crs_f sq hc
    have := pf_cyO (fz := fz) (Pq := fun xq => xq < sq) (fun xq hx => h1 xq hx) sq (fun xq hx => hx) sq h
    exact absurd this (Nat.lt_irrefl _)
theorem pf_ring {nz : Nat} : ∀ sq, (cyO fz nz sq).2 + qC (fun xq => (cyO fz nz xq).1.testBit xq) sq = sq
  | 0 => rfl
  | sq + 1 => by
    have ih := pf_ring (nz := nz) sq
    show (if (cyO fz nz sq).1.testBit sq = true then (cyO fz nz sq).2 else (cyO fz nz sq).2 + 1) + (qC (fun xq => (cyO fz nz xq).1.testBit xq) sq + (if (cyO fz nz sq).1.testBit sq = true then 1 else 0)) = sq + 1
    by_cases hb : (cyO fz nz sq).1.testBit sq = true
    · rw [if_pos hb, if_pos hb]; omega
    · rw [if_neg hb, if_neg hb]; omega
theorem pf_smad {az bz : Nat → Nat} : ∀ mq, sm (fun jq => az jq + bz jq) mq = sm az mq + sm bz mq
  | 0 => rfl
  | mq + 1 => by unfold sm; rw [pf_smad mq]; omega
theorem pf_sm1 {az : Nat → Nat} : ∀ mq iq, iq < mq → az iq ≤ sm az mq
  | 0, iq, hi => absurd hi (Nat.not_lt_zero _)
  | mq + 1, iq, hi => by
    unfold sm
    by_cases h1 : iq = mq
    · subst h1; omega
    · have := pf_sm1 (az := az) mq iq (by omega); omega
theorem pf_span {iq vq : Nat} : ∀ mq, qC (fun xq => decide (iq < xq ∧ xq ≤ vq)) mq ≤ min mq (vq + 1) - (iq + 1)
  | 0 => Nat.zero_le _
  | mq + 1 => by
    have ih := @pf_span iq vq mq
    unfold qC
    by_cases h1 : iq < mq ∧ mq ≤ vq
    · rw [if_pos (decide_eq_true h1)]; omega
    · rw [if_neg (by rw [decide_eq_true_iff]; exact h1)]; omega
theorem pf_cross : ∀ mq, mq ≤ nq → qC (fun xq => crs fz xq xq) mq ≤ sm (fun iq => qC (fun xq => decide (iq < xq ∧ xq ≤ fz iq)) mq) nq
  | 0, _ => Nat.zero_le _
  | mq + 1, hm => by
    have ih := pf_cross mq (by omega)
    have e1 : sm (fun iq => qC (fun xq => decide (iq < xq ∧ xq ≤ fz iq)) (mq + 1)) nq = sm (fun iq => qC (fun xq => decide (iq < xq ∧ xq ≤ fz iq)) mq) nq + sm (fun iq => if decide (iq < mq ∧ mq ≤ fz iq) = true then 1 else 0) nq := pf_smad nq
    rw [e1]
    have e2 : qC (fun xq => crs fz xq xq) (mq + 1) = qC (fun xq => crs fz xq xq) mq + (if crs fz mq mq = true then 1 else 0) := rfl
    rw [e2]
    by_cases hc : crs fz mq mq = true
    · obtain ⟨iq, a, b⟩ := crs_t mq hc
      have h1 := pf_sm1 (az := fun iq => if decide (iq < mq ∧ mq ≤ fz iq) = true then 1 else 0) nq iq (by omega)
      have h2 : (if decide (iq < mq ∧ mq ≤ fz iq) = true then 1 else 0) = 1 := if_pos (decide_eq_true ⟨a, b⟩)
      have h1 : (if decide (iq < mq ∧ mq ≤ fz iq) = true then 1 else 0) ≤ sm (fun iq => if decide (iq < mq ∧ mq ≤ fz iq) = true then 1 else 0) nq := h1
      rw [h2] at h1
      rw [if_pos hc]; omega
    · rw [if_neg hc]; omega
/-- no more exchanges are needed than pairs are wrong -/
theorem pf_mend (h : inj9 fz nq) (hb : nq < 2147483648) : nq - (cyO fz nq nq).2 ≤ pOut (fun jq => zN (fz jq)) nq nq := by
  have h1 := pf_ring (fz := fz) (nz := nq) nq
  have h2 : qC (fun xq => (cyO fz nq xq).1.testBit xq) nq ≤ qC (fun xq => crs fz xq xq) nq := pf_mono nq (fun xq _ hx => pf_bit hx)
  have h3 := pf_cross (fz := fz) (nq := nq) nq (Nat.le_refl _)
  have h4 : sm (fun iq => qC (fun xq => decide (iq < xq ∧ xq ≤ fz iq)) nq) nq ≤ sm (fun iq => pIn (fun jq => zN (fz jq)) iq nq) nq := pf_smle nq fun iq hi => by
    have := pf_span (iq := iq) (vq := fz iq) nq
    have := pf_exc h hb hi
    omega
  rw [pf_sm]
  omega
theorem pf_keep : ∀ dq mq pl xq, mq.testBit xq = true → (cyI fz dq mq pl).testBit xq = true
  | 0, _, _, _, h => h
  | dq + 1, mq, pl, xq, h => by
    unfold cyI
    split
    · exact h
    · exact pf_keep dq _ _ xq (by rw [Nat.testBit_or, h]; rfl)
theorem pf_keepO {nz xq : Nat} : ∀ dq sq, (cyO fz nz sq).1.testBit xq = true → (cyO fz nz (sq + dq)).1.testBit xq = true
  | 0, _, h => h
  | dq + 1, sq, h => pf_keep nz _ _ xq (pf_keepO dq sq h)
theorem pf_next {dq mq pl : Nat} (hm : ¬ mq.testBit pl = true) : (cyI fz (dq + 2) mq pl).testBit (fz pl) = true := by
  unfold cyI
  rw [if_neg hm]
  unfold cyI
  split
  · assumption
  · exact pf_keep dq _ _ _ (by rw [Nat.testBit_or, Nat.testBit_two_pow_self, Bool.or_true])
theorem pf_mend0 (h : inj9 fz nq) (h0 : nq - (cyO fz nq nq).2 = 0) : ∀ iq, iq < nq → fz iq = iq := by
  have h1 := pf_ring (fz := fz) (nz := nq) nq
  have hz : ∀ xq, xq < nq → ¬ (cyO fz nq xq).1.testBit xq = true := by
    intro xq hx h9
    have : ∀ mq, xq < mq → 0 < qC (fun xq => (cyO fz nq xq).1.testBit xq) mq := by
      intro mq
      induction mq with
      | zero => intro h8; omega
      | succ mq ih =>
        intro h8
        unfold qC
        by_cases h7 : xq = mq
        · subst h7; rw [if_pos h9]; omega
        · have := ih (by omega); omega
    have := this nq hx
    omega
  refine pf_le_id h fun iq hi => ?_
  by_cases h2 : fz iq ≤ iq
  · exact h2
  · exfalso
    have h3 := h.2 iq hi
    obtain ⟨d9, hd⟩ : ∃ d9, nq = d9 + 2 := ⟨nq - 2, by omega⟩
    have h4 : (cyO fz nq (iq + 1)).1.testBit (fz iq) = true := by
      show (cyI fz nq (cyO fz nq iq).1 iq).testBit (fz iq) = true
      have := pf_next (fz := fz) (dq := d9) (hz iq hi)
      rw [← hd] at this
      exact this
    have h5 := pf_keepO (fz := fz) (nz := nq) (xq := fz iq) (fz iq - (iq + 1)) (iq + 1) h4
    rw [show iq + 1 + (fz iq - (iq + 1)) = fz iq by omega] at h5
    exact hz (fz iq) h3 h5
-- the longest rising line
theorem pf_rA : ∀ pz iq, iq < pz → rA fz pz iq = rIn fz (rA fz iq) iq iq
  | 0, iq, h => absurd h (Nat.not_lt_zero _)
  | pz + 1, iq, h => by
    show va_up (rA fz pz) pz (rIn fz (rA fz pz) pz pz) iq = _
    by_cases h1 : iq = pz
    · subst h1; rw [va_up_self]
    · rw [va_up_ne _ _ h1]; exact pf_rA pz iq (by omega)
theorem pf_rIn_le {rs : Nat → Nat} {pz : Nat} : ∀ aq, (∀ iq, iq < aq → rs iq ≤ iq + 1) → rIn fz rs pz aq ≤ aq + 1
  | 0, _ => Nat.le_refl _
  | aq + 1, h => by
    have h1 := pf_rIn_le (rs := rs) (pz := pz) aq (fun iq hi => h iq (by omega))
    have h2 := h aq (Nat.lt_succ_self _)
    unfold rIn
    split <;> omega
theorem pf_l_le : ∀ pz, rIn fz (rA fz pz) pz pz ≤ pz + 1 := by
  intro pz
  induction pz using Nat.strongRecOn with
  | _ pz ih =>
    refine pf_rIn_le pz fun iq hi => ?_
    rw [pf_rA pz iq hi]
    exact ih iq hi
theorem pf_l_eq {pz : Nat} (h : rIn fz (rA fz (pz + 1)) (pz + 1) (pz + 1) = pz + 2) : fz pz < fz (pz + 1) ∧ rIn fz (rA fz pz) pz pz = pz + 1 := by
  have h2 : rIn fz (rA fz (pz + 1)) (pz + 1) pz ≤ pz + 1 := pf_rIn_le pz fun iq hi => by
    rw [pf_rA (pz + 1) iq (by omega)]; exact pf_l_le iq
  have h3 := pf_l_le (fz := fz) pz
  rw [show rIn fz (rA fz (pz + 1)) (pz + 1) (pz + 1) = if fz pz < fz (pz + 1) then max (rIn fz (rA fz (pz + 1)) (pz + 1) pz) (rA fz (pz + 1) pz + 1) else rIn fz (rA fz (pz + 1)) (pz + 1) pz from rfl, pf_rA (pz + 1) pz (Nat.lt_succ_self _)] at h
  split at h
  · exact ⟨by assumption, by omega⟩
  · omega
theorem pf_up : ∀ pz, rIn fz (rA fz pz) pz pz = pz + 1 → ∀ iq, iq < pz → fz iq < fz (iq + 1)
  | 0, _, iq, hi => absurd hi (Nat.not_lt_zero _)
  | pz + 1, h, iq, hi => by
    obtain ⟨a, b⟩ := pf_l_eq h
    by_cases h1 : iq = pz
    · subst h1; exact a
    · exact pf_up pz b iq (by omega)
theorem pf_lo_up (h : rLo fz nq = nq) : ∀ iq, iq + 1 < nq → fz iq < fz (iq + 1) := by
  cases nq with
  | zero => intro iq hi; omega
  | succ pz =>
    have h1 := rLo_le (fz := fz) pz
    have h2 := pf_l_le (fz := fz) pz
    have h3 : max (rLo fz pz) (rIn fz (rA fz pz) pz pz) = pz + 1 := h
    exact fun iq hi => pf_up pz (by omega) iq (by omega)
theorem pf_strict (h : ∀ iq, iq + 1 < nq → fz iq < fz (iq + 1)) : ∀ iq jq, iq < jq → jq < nq → fz iq ≤ fz jq := by
  intro iq jq
  induction jq with
  | zero => intro h1; omega
  | succ jq ih =>
    intro h1 h2
    have h3 := h jq h2
    by_cases h4 : iq = jq
    · subst h4; omega
    · have := ih (by omega) (by omega); omega
theorem pf_lo_wr (hb : ∀ jq, jq < nq → fz jq < 2147483648) (h : rLo fz nq = nq) : pOut (fun jq => zN (fz jq)) nq nq = 0 := pf_up_wr hb (pf_strict (pf_lo_up h))
theorem pf_id_l (h : ∀ iq, iq < nq → fz iq = iq) : ∀ pz, pz < nq → rIn fz (rA fz pz) pz pz = pz + 1 := by
  intro pz
  induction pz using Nat.strongRecOn with
  | _ pz ih =>
    intro hp
    have : ∀ aq, aq ≤ pz → rIn fz (rA fz pz) pz aq = aq + 1 := by
      intro aq
      induction aq with
      | zero => intro _; rfl
      | succ aq iha =>
        intro ha
        unfold rIn
        rw [iha (by omega), if_pos (by rw [h aq (by omega), h pz hp]; omega), pf_rA pz aq (by omega), ih aq (by omega) (by omega)]
        omega
    exact this pz (Nat.le_refl _)
theorem pf_id_lo (h : ∀ iq, iq < nq → fz iq = iq) : rLo fz nq = nq := by
  cases nq with
  | zero => rfl
  | succ pz =>
    have h1 := rLo_le (fz := fz) pz
    have h2 := pf_id_l h pz (Nat.lt_succ_self _)
    show max (rLo fz pz) (rIn fz (rA fz pz) pz pz) = pz + 1
    omega
theorem pf_rIn_1 {rs : Nat → Nat} {pz : Nat} : ∀ aq, 1 ≤ rIn fz rs pz aq
  | 0 => Nat.le_refl _
  | aq + 1 => by
    have := pf_rIn_1 (rs := rs) (pz := pz) aq
    unfold rIn; split <;> omega
theorem pf_lo_1 (h : 0 < nq) : 1 ≤ rLo fz nq := by
  cases nq with
  | zero => omega
  | succ pz =>
    have := pf_rIn_1 (fz := fz) (rs := rA fz pz) (pz := pz) pz
    show 1 ≤ max (rLo fz pz) (rIn fz (rA fz pz) pz pz)
    omega
-- pairs at most n(n-1)/2
theorem pf_in_le {fq : Nat → Int32} {iq : Nat} : ∀ mq, pIn fq iq mq ≤ mq - (iq + 1)
  | 0 => Nat.zero_le _
  | mq + 1 => by
    have := pf_in_le (fq := fq) (iq := iq) mq
    unfold pIn; split <;> omega
theorem pf_out_le {fq : Nat → Int32} {nz : Nat} : ∀ iq, iq ≤ nz → 2 * pOut fq nz iq + iq * iq + iq ≤ 2 * nz * iq
  | 0, _ => by unfold pOut; omega
  | iq + 1, h => by
    have h1 := pf_out_le (fq := fq) (nz := nz) iq (by omega)
    have h2 := pf_in_le (fq := fq) (iq := iq) nz
    unfold pOut
    have e1 : (iq + 1) * (iq + 1) = iq * iq + 2 * iq + 1 := by rw [Nat.add_mul, Nat.mul_add]; omega
    have e2 : 2 * nz * (iq + 1) = 2 * nz * iq + 2 * nz := by rw [Nat.mul_add, Nat.mul_one]
    rw [e1, e2]
    omega
theorem pf_pairs {fq : Nat → Int32} {nz : Nat} : pOut fq nz nz ≤ nz * (nz - 1) / 2 := by
  have h1 := pf_out_le (fq := fq) (nz := nz) nz (Nat.le_refl _)
  have e1 : nz * (nz - 1) + nz = nz * nz := by
    cases nz with
    | zero => rfl
    | succ mq => rw [Nat.add_sub_cancel, Nat.mul_succ (mq + 1) mq]
  rw [Nat.mul_assoc] at h1
  omega
end QK
