/-! the pure part: the model's exchanges: each brings a number to its place -/
theorem tb_or {mq pl iq : Nat} : (mq ||| 2 ^ pl).testBit iq = (mq.testBit iq || decide (pl = iq)) := by
  rw [Nat.testBit_or, Nat.testBit_two_pow]
theorem qC_or {mq pl : Nat} (h : ¬ mq.testBit pl = true) : ∀ nq, qC (fun iq => (mq ||| 2 ^ pl).testBit iq) nq = qC (fun iq => mq.testBit iq) nq + (if pl < nq then 1 else 0) := by
  intro nq
  induction nq with
  | zero => rfl
  | succ nq ih =>
    show qC _ nq + (if (mq ||| 2 ^ pl).testBit nq = true then 1 else 0) = qC _ nq + (if mq.testBit nq = true then 1 else 0) + _
    rw [ih, tb_or]
    by_cases hx : pl = nq
    · subst hx
      rw [if_neg (Nat.lt_irrefl _), if_pos (by simp), if_neg h, if_pos (Nat.lt_succ_self _)]
    · rw [decide_eq_false hx, Bool.or_false]
      by_cases hy : pl < nq
      · rw [if_pos hy, if_pos (show pl < nq + 1 by omega)]; omega
      · rw [if_neg hy, if_neg (show ¬ pl < nq + 1 by omega)]; omega
/-- how a row of numbers stands to those already seen from st: identity on them (but at st), pz elsewhere, one to one -/
def exI (pz : Nat → Nat) (nq : Nat) (mq st : Nat) (fz : Nat → Nat) : Prop := (∀ iq, iq < nq → fz iq < nq) ∧ (∀ iq jq, iq < nq → jq < nq → fz iq = fz jq → iq = jq) ∧ (∀ iq, iq < nq → iq ≠ st → mq.testBit iq = true → fz iq = iq) ∧ (∀ iq, iq < nq → iq ≠ st → mq.testBit iq = false → fz iq = pz iq)
def nUp (fz : Nat → Nat) (kq vq : Nat) : Nat → Nat := fun iq => if iq = kq then vq else fz iq
theorem ex_step {pz fz : Nat → Nat} {nq mq st : Nat} (h : exI pz nq mq st fz) (hs : st < nq) (hms : mq.testBit st = true) (hne : ¬ fz st = st) : mq.testBit (fz st) = false ∧ fz (fz st) = pz (fz st) ∧ exI pz nq (mq ||| 2 ^ fz st) st (nUp (nUp fz st (fz (fz st))) (fz st) (fz st)) := by
  obtain ⟨a, b, c, d⟩ := h
  have ht := a st hs
  have hu : mq.testBit (fz st) = false := by
    cases hx : mq.testBit (fz st) with
    | false => rfl
    | true => exact absurd (b _ _ ht hs (c _ ht hne hx)) hne
  have hp := d _ ht hne hu
  refine ⟨hu, hp, fun iq hi => ?_, fun iq jq hi hj he => ?_, fun iq hi h1 h2 => ?_, fun iq hi h1 h2 => ?_⟩
  · unfold nUp; split
    · exact ht
    · split
      · exact a _ ht
      · exact a _ hi
  · unfold nUp at he
    by_cases e1 : iq = fz st
    · rw [if_pos e1] at he
      by_cases e2 : jq = fz st
      · rw [e1, e2]
      · rw [if_neg e2] at he
        by_cases e3 : jq = st
        · rw [if_pos e3] at he
          exact absurd (b _ _ ht hs he.symm) hne
        · rw [if_neg e3] at he
          exact absurd (b _ _ hs hj he) (fun hh => e3 hh.symm)
    · rw [if_neg e1] at he
      by_cases e2 : jq = fz st
      · rw [if_pos e2] at he
        by_cases e3 : iq = st
        · rw [if_pos e3] at he
          exact absurd (b _ _ ht hs he) hne
        · rw [if_neg e3] at he
          exact absurd (b _ _ hi hs he) e3
      · rw [if_neg e2] at he
        by_cases e3 : iq = st
        · rw [if_pos e3] at he
          by_cases e4 : jq = st
          · rw [e3, e4]
          · rw [if_neg e4] at he
            exact absurd (b _ _ ht hj he) (fun hh => e2 hh.symm)
        · rw [if_neg e3] at he
          by_cases e4 : jq = st
          · rw [if_pos e4] at he
            exact absurd (b _ _ hi ht he) e1
          · rw [if_neg e4] at he
            exact b _ _ hi hj he
  · unfold nUp
    by_cases e1 : iq = fz st
    · rw [if_pos e1]; exact e1.symm
    · rw [if_neg e1, if_neg h1]
      rw [tb_or, decide_eq_false (fun hh => e1 hh.symm), Bool.or_false] at h2
      exact c _ hi h1 h2
  · unfold nUp
    by_cases e1 : iq = fz st
    · rw [tb_or, decide_eq_true e1.symm, Bool.or_true] at h2
      cases h2
    · rw [if_neg e1, if_neg h1]
      rw [tb_or, decide_eq_false (fun hh => e1 hh.symm), Bool.or_false] at h2
      exact d _ hi h1 h2
section QA
variable {so : Nat → Nat} {g : pwG} {bq jr : Nat} {sc : Nat → Int32} {Rq : Nat → Nat → Int32} {w : pwW} {Aq Bq : TA} {nq sq kq : Nat} {pq rq tq uq : Int32} {fq hq : Nat → Int32}
/-- the exchanges that begin at st, together with the ring that is walked: as many exchanges as walkers are newly seen -/
theorem n_ex16 {pz : Nat → Nat} (hn : nq ≤ 10) {st : Nat} (hs : st < nq) : ∀ (dq mq : Nat) (fz : Nat → Nat) (f7 : Nat → Int32) (cn : Nat) (o4 : Option Value), nq - qC (fun iq => mq.testBit iq) nq = dq → mq < 1024 → mq.testBit st = true → exI pz nq mq st fz → (∀ iq, iq < nq → f7 iq = zN (fz iq)) → ∃ (m2 kk : Nat) (f2 : Nat → Nat) (f8 : Nat → Int32) (p4 : Option Value), (∀ d2, dq ≤ d2 → cyI pz d2 mq (fz st) = m2) ∧ m2 < 1024 ∧ m2.testBit st = true ∧ (∀ iq, mq.testBit iq = true → m2.testBit iq = true) ∧ exI pz nq m2 st f2 ∧ f2 st = st ∧ (∀ iq, iq < nq → f8 iq = zN (f2 iq)) ∧ qC (fun iq => m2.testBit iq) nq = qC (fun iq => mq.testBit iq) nq + kk ∧ pwX so 151 16 [some (.ref bq), some (.ref (bq + jr)), some (.int (zN cn)), some (.int (zN st)), o4] [] g (mkM bq sc (va_up Rq 7 f7) w) = pwX so 151 9 [some (.ref bq), some (.ref (bq + jr)), some (.int (zN (cn + kk))), some (.int (zN (st + 1))), p4] [] g (mkM bq sc (va_up Rq 7 f8) w) := by
  intro dq
  induction dq with
  | zero =>
    intro mq fz f7 cn o4 hd h1 h2 he hf
    have hall : fz st = st := by
      by_cases hx : fz st = st
      · exact hx
      · exfalso
        obtain ⟨e1, -, -⟩ := ex_step he hs h2 hx
        have e2 := qC_or (mq := mq) (pl := fz st) (by rw [e1]; decide) nq
        have e3 := @qC_le (fun iq => (mq ||| 2 ^ fz st).testBit iq) nq
        have e4 := he.1 st hs
        rw [if_pos e4] at e2
        omega
    refine ⟨mq, 0, fz, f7, o4, fun d2 _ => ?_, h1, h2, fun _ h => h, he, hall, hf, rfl, ?_⟩
    · rw [hall]
      cases d2 with
      | zero => rfl
      | succ d2 => exact if_pos h2
    · have e5 := hf st hs
      rw [hall] at e5
      simp (disch := omega) only [s_X8_exchanges_0, s_X8_exchanges_1, s_X8_exchanges_2, s_X8_exchanges_5, s_X8_exchanges_6, s_X8_exchanges_7, s_X8_exchanges_8, s_X8_exchanges_10, s_X8_exchanges_11, s_X8_exchanges_12, s_X8_exchanges_13, s_X8_exchanges_16, s_X8_exchanges_17, s_X8_exchanges_20, s_X8_exchanges_21, s_X8_exchanges_22, s_X8_exchanges_23, s_X8_exchanges_26, s_X8_exchanges_27, s_X8_exchanges_30, s_X8_exchanges_31, s_X8_exchanges_32, s_X8_exchanges_34, s_X8_exchanges_35, s_X8_exchanges_38, s_X8_exchanges_39, s_X8_exchanges_40, s_X8_exchanges_43, s_X8_exchanges_45, s_X8_exchanges_46, s_X8_exchanges_47, s_X8_exchanges_48, s_X8_exchanges_51, s_X8_exchanges_53, s_X8_exchanges_55, s_X8_exchanges_56, s_X8_exchanges_59, s_X8_exchanges_62, s_X8_exchanges_65, s_X8_exchanges_68, s_X8_exchanges_69, ↓mg0, ↓mg1, ↓mg2, ↓mg3, ↓mg4, ↓mg5, ↓mg6, ↓mg7, ↓mg8, ↓mg9, ↓mg10, ↓mg11, ↓mg12, ↓mg13, ↓mg14, ↓mp0, ↓mp5, ↓mp11, ↓mp12, ↓mp13, ↓mp14, ↓ml1, ↓ml2, ↓ml3, ↓ml4, ↓ml5, ↓ml7, ↓ml8, ↓ml9, ↓mlr, ↓mt1, ↓mt2, ↓mt3, ↓mt4, ↓mt5, ↓mt7, ↓mt8, ↓mt9, ↓mlz, ↓mtz, mm_i, cond_true, cond_false, qAv, qAn, qV_vv, qV_s, qV_n, qU_s, qU_n, zN_neg1, nL0, nL1, nL2, nL3, nL4, nL5, nL6, nL7, nL8, nL9, nL10, nL11, nL12, nL13, nL14, nL20, nL21, nL22, nL23, nL25, nL32, nL33, nL39, nL40, nL43, nL44, nL99, nL100, nL120, nL216, nL217, nL218, nL219, nL220, nL221, nL500, nL999, nL1000, nL10000, nL100000, sh33, zN_lt, zN_le, zN_eq, zN_ge0, zN_lt0, zN_nm, zN_mn, zN_mlt, zN_ltm, zN_lem, zN_mle, zN_m1, zN_m2, zN_addm, zN_ofNat, zN_beq, zN_add, zN_sub, zN_mul, zN_rem, qT_lt, qF_lt, qT_le, qF_le, qT_eq, qF_eq, ↓reduceIte, and_true, true_and, false_and, and_false, not_true_eq_false, not_false_eq_true, decide_true, decide_false, Bool.true_or, Bool.or_true, Bool.false_or, Bool.or_false, cond_true, cond_false, e5, Nat.add_zero]
  | succ dq ih =>
    intro mq fz f7 cn o4 hd h1 h2 he hf
    have e5 := hf st hs
    have e4 := he.1 st hs
    by_cases hx : fz st = st
    · refine ⟨mq, 0, fz, f7, o4, fun d2 hd2 => ?_, h1, h2, fun _ h => h, he, hx, hf, rfl, ?_⟩
      · rw [hx]
        cases d2 with
        | zero => rfl
        | succ d2 => exact if_pos h2
      · rw [hx] at e5
        simp (disch := omega) only [s_X8_exchanges_0, s_X8_exchanges_1, s_X8_exchanges_2, s_X8_exchanges_5, s_X8_exchanges_6, s_X8_exchanges_7, s_X8_exchanges_8, s_X8_exchanges_10, s_X8_exchanges_11, s_X8_exchanges_12, s_X8_exchanges_13, s_X8_exchanges_16, s_X8_exchanges_17, s_X8_exchanges_20, s_X8_exchanges_21, s_X8_exchanges_22, s_X8_exchanges_23, s_X8_exchanges_26, s_X8_exchanges_27, s_X8_exchanges_30, s_X8_exchanges_31, s_X8_exchanges_32, s_X8_exchanges_34, s_X8_exchanges_35, s_X8_exchanges_38, s_X8_exchanges_39, s_X8_exchanges_40, s_X8_exchanges_43, s_X8_exchanges_45, s_X8_exchanges_46, s_X8_exchanges_47, s_X8_exchanges_48, s_X8_exchanges_51, s_X8_exchanges_53, s_X8_exchanges_55, s_X8_exchanges_56, s_X8_exchanges_59, s_X8_exchanges_62, s_X8_exchanges_65, s_X8_exchanges_68, s_X8_exchanges_69, ↓mg0, ↓mg1, ↓mg2, ↓mg3, ↓mg4, ↓mg5, ↓mg6, ↓mg7, ↓mg8, ↓mg9, ↓mg10, ↓mg11, ↓mg12, ↓mg13, ↓mg14, ↓mp0, ↓mp5, ↓mp11, ↓mp12, ↓mp13, ↓mp14, ↓ml1, ↓ml2, ↓ml3, ↓ml4, ↓ml5, ↓ml7, ↓ml8, ↓ml9, ↓mlr, ↓mt1, ↓mt2, ↓mt3, ↓mt4, ↓mt5, ↓mt7, ↓mt8, ↓mt9, ↓mlz, ↓mtz, mm_i, cond_true, cond_false, qAv, qAn, qV_vv, qV_s, qV_n, qU_s, qU_n, zN_neg1, nL0, nL1, nL2, nL3, nL4, nL5, nL6, nL7, nL8, nL9, nL10, nL11, nL12, nL13, nL14, nL20, nL21, nL22, nL23, nL25, nL32, nL33, nL39, nL40, nL43, nL44, nL99, nL100, nL120, nL216, nL217, nL218, nL219, nL220, nL221, nL500, nL999, nL1000, nL10000, nL100000, sh33, zN_lt, zN_le, zN_eq, zN_ge0, zN_lt0, zN_nm, zN_mn, zN_mlt, zN_ltm, zN_lem, zN_mle, zN_m1, zN_m2, zN_addm, zN_ofNat, zN_beq, zN_add, zN_sub, zN_mul, zN_rem, qT_lt, qF_lt, qT_le, qF_le, qT_eq, qF_eq, ↓reduceIte, and_true, true_and, false_and, and_false, not_true_eq_false, not_false_eq_true, decide_true, decide_false, Bool.true_or, Bool.or_true, Bool.false_or, Bool.or_false, cond_true, cond_false, e5, Nat.add_zero]
    · obtain ⟨e1, e2, e3⟩ := ex_step he hs h2 hx
      have e6 := qC_or (mq := mq) (pl := fz st) (by rw [e1]; decide) nq
      rw [if_pos e4] at e6
      have e7 := hf (fz st) e4
      obtain ⟨m2, kk, f2, f8, p4, i1, i2, i3, i4, i5, i6, i7, i9, i8⟩ := ih (mq ||| 2 ^ fz st) (nUp (nUp fz st (fz (fz st))) (fz st) (fz st)) (upd (upd f7 st (zN (fz (fz st)))) (fz st) (zN (fz st))) (cn + 1) (some (.int (zN (fz st)))) (by omega) (bt3 h1 (by omega)) (by rw [tb_or, h2, Bool.true_or]) e3 (fun iq hi => by
        unfold nUp
        by_cases z1 : iq = fz st
        · subst z1; rw [qU_s, if_pos rfl]
        · rw [qU_n z1, if_neg z1]
          by_cases z2 : iq = st
          · subst z2; rw [qU_s, if_pos rfl]
          · rw [qU_n z2, if_neg z2]; exact hf iq hi)
      have e8 : (nUp (nUp fz st (fz (fz st))) (fz st) (fz st)) st = pz (fz st) := by
        unfold nUp
        rw [if_neg (fun hh => hx hh.symm), if_pos rfl, e2]
      refine ⟨m2, kk + 1, f2, f8, p4, fun d2 hd2 => ?_, i2, i3, fun iq hb => i4 iq (by rw [tb_or, hb, Bool.true_or]), i5, i6, i7, by omega, ?_⟩
      · cases d2 with
        | zero => omega
        | succ d2 =>
          show (if mq.testBit (fz st) = true then mq else cyI pz d2 (mq ||| 2 ^ fz st) (pz (fz st))) = m2
          rw [if_neg (by rw [e1]; decide), ← e8]
          exact i1 d2 (by omega)
      · rw [show cn + (kk + 1) = cn + 1 + kk by omega, ← i8, s_X8_exchanges_16]
        have z9 : fz st < st ∨ st < fz st := by omega
        have w9 := he.1 (fz st) e4
        simp (disch := omega) only [s_X8_exchanges_0, s_X8_exchanges_1, s_X8_exchanges_2, s_X8_exchanges_5, s_X8_exchanges_6, s_X8_exchanges_7, s_X8_exchanges_8, s_X8_exchanges_10, s_X8_exchanges_11, s_X8_exchanges_12, s_X8_exchanges_13, s_X8_exchanges_17, s_X8_exchanges_20, s_X8_exchanges_21, s_X8_exchanges_22, s_X8_exchanges_23, s_X8_exchanges_26, s_X8_exchanges_27, s_X8_exchanges_30, s_X8_exchanges_31, s_X8_exchanges_32, s_X8_exchanges_34, s_X8_exchanges_35, s_X8_exchanges_38, s_X8_exchanges_39, s_X8_exchanges_40, s_X8_exchanges_43, s_X8_exchanges_45, s_X8_exchanges_46, s_X8_exchanges_47, s_X8_exchanges_48, s_X8_exchanges_51, s_X8_exchanges_53, s_X8_exchanges_55, s_X8_exchanges_56, s_X8_exchanges_59, s_X8_exchanges_62, s_X8_exchanges_65, s_X8_exchanges_68, s_X8_exchanges_69, ↓mg0, ↓mg1, ↓mg2, ↓mg3, ↓mg4, ↓mg5, ↓mg6, ↓mg7, ↓mg8, ↓mg9, ↓mg10, ↓mg11, ↓mg12, ↓mg13, ↓mg14, ↓mp0, ↓mp5, ↓mp11, ↓mp12, ↓mp13, ↓mp14, ↓ml1, ↓ml2, ↓ml3, ↓ml4, ↓ml5, ↓ml7, ↓ml8, ↓ml9, ↓mlr, ↓mt1, ↓mt2, ↓mt3, ↓mt4, ↓mt5, ↓mt7, ↓mt8, ↓mt9, ↓mlz, ↓mtz, mm_i, cond_true, cond_false, qAv, qAn, qV_vv, qV_s, qV_n, qU_s, qU_n, zN_neg1, nL0, nL1, nL2, nL3, nL4, nL5, nL6, nL7, nL8, nL9, nL10, nL11, nL12, nL13, nL14, nL20, nL21, nL22, nL23, nL25, nL32, nL33, nL39, nL40, nL43, nL44, nL99, nL100, nL120, nL216, nL217, nL218, nL219, nL220, nL221, nL500, nL999, nL1000, nL10000, nL100000, sh33, zN_lt, zN_le, zN_eq, zN_ge0, zN_lt0, zN_nm, zN_mn, zN_mlt, zN_ltm, zN_lem, zN_mle, zN_m1, zN_m2, zN_addm, zN_ofNat, zN_beq, zN_add, zN_sub, zN_mul, zN_rem, qT_lt, qF_lt, qT_le, qF_le, qT_eq, qF_eq, ↓reduceIte, and_true, true_and, false_and, and_false, not_true_eq_false, not_false_eq_true, decide_true, decide_false, Bool.true_or, Bool.or_true, Bool.false_or, Bool.or_false, cond_true, cond_false, e5, e7]
def exF (pz : Nat → Nat) (nq mq : Nat) (fz : Nat → Nat) : Prop := (∀ iq, iq < nq → fz iq < nq) ∧ (∀ iq jq, iq < nq → jq < nq → fz iq = fz jq → iq = jq) ∧ (∀ iq, iq < nq → mq.testBit iq = true → fz iq = iq) ∧ (∀ iq, iq < nq → mq.testBit iq = false → fz iq = pz iq)
theorem n_ex9 {pz : Nat → Nat} (h1 : 1 ≤ jr) (h3 : jr ≤ 3) (hn : nq ≤ 10) (hp : ∀ iq, iq < 10 → pz iq < 10) (hr : Rq jr 0 = zN nq) : ∀ (dq ii : Nat) (fz : Nat → Nat) (f7 : Nat → Int32) (cn : Nat) (o4 : Option Value), ii + dq = nq → exF pz nq (cyO pz nq ii).1 fz → (∀ iq, iq < nq → f7 iq = zN (fz iq)) → (∀ jq, jq < ii → (cyO pz nq ii).1.testBit jq = true) → cn + (cyO pz nq ii).2 = qC (fun iq => (cyO pz nq ii).1.testBit iq) nq → ∃ f8 : Nat → Int32, pwX so 151 9 [some (.ref bq), some (.ref (bq + jr)), some (.int (zN cn)), some (.int (zN ii)), o4] [] g (mkM bq sc (va_up Rq 7 f7) w) = some (.inl (some (.int (zN (nq - (cyO pz nq nq).2)))), g, (mkM bq sc (va_up Rq 7 f8) w)) := by
  intro dq
  induction dq with
  | zero =>
    intro ii fz f7 cn o4 e1 he hf hb hc
    have e1 : ii = nq := by omega
    subst e1
    have hall : qC (fun iq => (cyO pz ii ii).1.testBit iq) ii = ii := by
      have hq : ∀ mq, (∀ jq, jq < mq → (cyO pz ii ii).1.testBit jq = true) → qC (fun iq => (cyO pz ii ii).1.testBit iq) mq = mq := by
        intro mq
        induction mq with
        | zero => intro _; rfl
        | succ mq ih =>
          intro h
          rw [qC_s (h mq (Nat.lt_succ_self _)), ih (fun jq hj => h jq (by omega))]
      exact hq ii hb
    refine ⟨f7, ?_⟩
    rw [show ii - (cyO pz ii ii).2 = cn by omega]
    simp (disch := omega) only [s_X8_exchanges_9, s_X8_exchanges_10, s_X8_exchanges_11, s_X8_exchanges_12, s_X8_exchanges_13, s_X8_exchanges_68, s_X8_exchanges_69, ↓mg0, ↓mg1, ↓mg2, ↓mg3, ↓mg4, ↓mg5, ↓mg6, ↓mg7, ↓mg8, ↓mg9, ↓mg10, ↓mg11, ↓mg12, ↓mg13, ↓mg14, ↓mp0, ↓mp5, ↓mp11, ↓mp12, ↓mp13, ↓mp14, ↓ml1, ↓ml2, ↓ml3, ↓ml4, ↓ml5, ↓ml7, ↓ml8, ↓ml9, ↓mlr, ↓mt1, ↓mt2, ↓mt3, ↓mt4, ↓mt5, ↓mt7, ↓mt8, ↓mt9, ↓mlz, ↓mtz, mm_i, cond_true, cond_false, qAv, qAn, qV_vv, qV_s, qV_n, qU_s, qU_n, zN_neg1, nL0, nL1, nL2, nL3, nL4, nL5, nL6, nL7, nL8, nL9, nL10, nL11, nL12, nL13, nL14, nL20, nL21, nL22, nL23, nL25, nL32, nL33, nL39, nL40, nL43, nL44, nL99, nL100, nL120, nL216, nL217, nL218, nL219, nL220, nL221, nL500, nL999, nL1000, nL10000, nL100000, sh33, zN_lt, zN_le, zN_eq, zN_ge0, zN_lt0, zN_nm, zN_mn, zN_mlt, zN_ltm, zN_lem, zN_mle, zN_m1, zN_m2, zN_addm, zN_ofNat, zN_beq, zN_add, zN_sub, zN_mul, zN_rem, qT_lt, qF_lt, qT_le, qF_le, qT_eq, qF_eq, ↓reduceIte, and_true, true_and, false_and, and_false, not_true_eq_false, not_false_eq_true, decide_true, decide_false, Bool.true_or, Bool.or_true, Bool.false_or, Bool.or_false, cond_true, cond_false, hr]
  | succ dq ih =>
    intro ii fz f7 cn o4 e1 he hf hb hc
    have hi : ii < nq := by omega
    have hm := @cyO_lt pz nq hp ii (by omega)
    have hO1 : (cyO pz nq (ii + 1)).1 = cyI pz nq (cyO pz nq ii).1 ii := rfl
    have hO2 : (cyO pz nq (ii + 1)).2 = if (cyO pz nq ii).1.testBit ii = true then (cyO pz nq ii).2 else (cyO pz nq ii).2 + 1 := rfl
    obtain ⟨a, b, c, d⟩ := he
    obtain ⟨n9, hn9⟩ : ∃ n9, nq = n9 + 1 := ⟨nq - 1, by omega⟩
    rw [s_X8_exchanges_9]
    by_cases hx : (cyO pz nq ii).1.testBit ii = true
    · have hI1 : (cyO pz nq (ii + 1)).1 = (cyO pz nq ii).1 := by
        rw [hO1]
        have : ∀ d9, cyI pz (d9 + 1) (cyO pz nq ii).1 ii = (cyO pz nq ii).1 := fun d9 => if_pos hx
        have h9 := this n9
        rw [← hn9] at h9; exact h9
      have hI2 : (cyO pz nq (ii + 1)).2 = (cyO pz nq ii).2 := by rw [hO2, if_pos hx]
      obtain ⟨f8, j1⟩ := ih (ii + 1) fz f7 cn o4 (by omega) (by rw [hI1]; exact ⟨a, b, c, d⟩) hf (fun jq hj => by
        rw [hI1]
        by_cases hz : jq = ii
        · rw [hz]; exact hx
        · exact hb jq (by omega)) (by rw [hI1, hI2]; exact hc)
      refine ⟨f8, ?_⟩
      have e5 := hf ii hi
      rw [c ii hi hx] at e5
      rw [← j1]
      simp (disch := omega) only [s_X8_exchanges_0, s_X8_exchanges_1, s_X8_exchanges_2, s_X8_exchanges_5, s_X8_exchanges_6, s_X8_exchanges_7, s_X8_exchanges_8, s_X8_exchanges_10, s_X8_exchanges_11, s_X8_exchanges_12, s_X8_exchanges_13, s_X8_exchanges_16, s_X8_exchanges_17, s_X8_exchanges_20, s_X8_exchanges_21, s_X8_exchanges_22, s_X8_exchanges_23, s_X8_exchanges_26, s_X8_exchanges_27, s_X8_exchanges_30, s_X8_exchanges_31, s_X8_exchanges_32, s_X8_exchanges_34, s_X8_exchanges_35, s_X8_exchanges_38, s_X8_exchanges_39, s_X8_exchanges_40, s_X8_exchanges_43, s_X8_exchanges_45, s_X8_exchanges_46, s_X8_exchanges_47, s_X8_exchanges_48, s_X8_exchanges_51, s_X8_exchanges_53, s_X8_exchanges_55, s_X8_exchanges_56, s_X8_exchanges_59, s_X8_exchanges_62, s_X8_exchanges_65, s_X8_exchanges_68, s_X8_exchanges_69, ↓mg0, ↓mg1, ↓mg2, ↓mg3, ↓mg4, ↓mg5, ↓mg6, ↓mg7, ↓mg8, ↓mg9, ↓mg10, ↓mg11, ↓mg12, ↓mg13, ↓mg14, ↓mp0, ↓mp5, ↓mp11, ↓mp12, ↓mp13, ↓mp14, ↓ml1, ↓ml2, ↓ml3, ↓ml4, ↓ml5, ↓ml7, ↓ml8, ↓ml9, ↓mlr, ↓mt1, ↓mt2, ↓mt3, ↓mt4, ↓mt5, ↓mt7, ↓mt8, ↓mt9, ↓mlz, ↓mtz, mm_i, cond_true, cond_false, qAv, qAn, qV_vv, qV_s, qV_n, qU_s, qU_n, zN_neg1, nL0, nL1, nL2, nL3, nL4, nL5, nL6, nL7, nL8, nL9, nL10, nL11, nL12, nL13, nL14, nL20, nL21, nL22, nL23, nL25, nL32, nL33, nL39, nL40, nL43, nL44, nL99, nL100, nL120, nL216, nL217, nL218, nL219, nL220, nL221, nL500, nL999, nL1000, nL10000, nL100000, sh33, zN_lt, zN_le, zN_eq, zN_ge0, zN_lt0, zN_nm, zN_mn, zN_mlt, zN_ltm, zN_lem, zN_mle, zN_m1, zN_m2, zN_addm, zN_ofNat, zN_beq, zN_add, zN_sub, zN_mul, zN_rem, qT_lt, qF_lt, qT_le, qF_le, qT_eq, qF_eq, ↓reduceIte, and_true, true_and, false_and, and_false, not_true_eq_false, not_false_eq_true, decide_true, decide_false, Bool.true_or, Bool.or_true, Bool.false_or, Bool.or_false, cond_true, cond_false, e5, hr]
    · have hxf : (cyO pz nq ii).1.testBit ii = false := by
        cases h : (cyO pz nq ii).1.testBit ii with
        | false => rfl
        | true => exact absurd h hx
      have hq := qC_or (mq := (cyO pz nq ii).1) (pl := ii) hx nq
      rw [if_pos hi] at hq
      have hql := @qC_le (fun iq => ((cyO pz nq ii).1 ||| 2 ^ ii).testBit iq) nq
      obtain ⟨m2, kk, f2, f8, p4, i1, i2, i3, i4, i5, i6, i7, i9, i8⟩ := @n_ex16 so g bq jr sc Rq w nq pz hn ii hi (nq - qC (fun iq => ((cyO pz nq ii).1 ||| 2 ^ ii).testBit iq) nq) ((cyO pz nq ii).1 ||| 2 ^ ii) fz f7 cn o4 rfl (bt3 hm (by omega)) (by rw [tb_or, decide_eq_true rfl, Bool.or_true]) ⟨a, b, fun iq z1 z2 z3 => c iq z1 (by rw [tb_or, decide_eq_false (fun hh => z2 hh.symm), Bool.or_false] at z3; exact z3), fun iq z1 z2 z3 => d iq z1 (by rw [tb_or, decide_eq_false (fun hh => z2 hh.symm), Bool.or_false] at z3; exact z3)⟩ hf
      have hI1 : (cyO pz nq (ii + 1)).1 = m2 := by
        rw [hO1]
        have h9 : ∀ d9, cyI pz (d9 + 1) (cyO pz nq ii).1 ii = cyI pz d9 ((cyO pz nq ii).1 ||| 2 ^ ii) (pz ii) := fun d9 => if_neg hx
        have h8 := h9 n9
        rw [← hn9] at h8
        rw [h8, ← d ii hi hxf]
        exact i1 n9 (by omega)
      have hI2 : (cyO pz nq (ii + 1)).2 = (cyO pz nq ii).2 + 1 := by rw [hO2, if_neg hx]
      obtain ⟨x1, x2, x3, x4⟩ := i5
      obtain ⟨f9, j1⟩ := ih (ii + 1) f2 f8 (cn + kk) p4 (by omega) (by
        rw [hI1]
        refine ⟨x1, x2, fun iq z1 z2 => ?_, fun iq z1 z2 => ?_⟩
        · by_cases hz : iq = ii
          · rw [hz]; exact i6
          · exact x3 iq z1 hz z2
        · refine x4 iq z1 (fun hh => ?_) z2
          rw [hh, i3] at z2; cases z2) i7 (fun jq hj => by
        rw [hI1]
        by_cases hz : jq = ii
        · rw [hz]; exact i3
        · exact i4 jq (by rw [tb_or, hb jq (by omega), Bool.true_or])) (by rw [hI1, hI2]; omega)
      refine ⟨f9, ?_⟩
      rw [← j1, ← i8]
      simp (disch := omega) only [s_X8_exchanges_10, s_X8_exchanges_11, s_X8_exchanges_12, s_X8_exchanges_13, ↓mg0, ↓mg1, ↓mg2, ↓mg3, ↓mg4, ↓mg5, ↓mg6, ↓mg7, ↓mg8, ↓mg9, ↓mg10, ↓mg11, ↓mg12, ↓mg13, ↓mg14, ↓mp0, ↓mp5, ↓mp11, ↓mp12, ↓mp13, ↓mp14, ↓ml1, ↓ml2, ↓ml3, ↓ml4, ↓ml5, ↓ml7, ↓ml8, ↓ml9, ↓mlr, ↓mt1, ↓mt2, ↓mt3, ↓mt4, ↓mt5, ↓mt7, ↓mt8, ↓mt9, ↓mlz, ↓mtz, mm_i, cond_true, cond_false, qAv, qAn, qV_vv, qV_s, qV_n, qU_s, qU_n, zN_neg1, nL0, nL1, nL2, nL3, nL4, nL5, nL6, nL7, nL8, nL9, nL10, nL11, nL12, nL13, nL14, nL20, nL21, nL22, nL23, nL25, nL32, nL33, nL39, nL40, nL43, nL44, nL99, nL100, nL120, nL216, nL217, nL218, nL219, nL220, nL221, nL500, nL999, nL1000, nL10000, nL100000, sh33, zN_lt, zN_le, zN_eq, zN_ge0, zN_lt0, zN_nm, zN_mn, zN_mlt, zN_ltm, zN_lem, zN_mle, zN_m1, zN_m2, zN_addm, zN_ofNat, zN_beq, zN_add, zN_sub, zN_mul, zN_rem, qT_lt, qF_lt, qT_le, qF_le, qT_eq, qF_eq, ↓reduceIte, and_true, true_and, false_and, and_false, not_true_eq_false, not_false_eq_true, decide_true, decide_false, Bool.true_or, Bool.or_true, Bool.false_or, Bool.or_false, cond_true, cond_false, hr]
theorem n_exch (h1 : 1 ≤ jr) (h3 : jr ≤ 3) (hI : invT Aq) (hz : repM Aq (Rq jr)) : ∃ f7 : Nat → Int32, pwX so 151 0 [some (.ref bq), some (.ref (bq + jr)), none, none, none] [] g (mkM bq sc Rq w) = some (.inl (some (.int (zN (aEx Aq)))), g, (mkM bq sc (va_up Rq 7 f7) w)) := by
  have h4 := hI.1
  obtain ⟨f7, a1, a2⟩ := @n_layFile so g bq jr sc Rq w Aq h1 h3 hI hz
  have t0 : ∀ iq, (0 : Nat).testBit iq = false := Nat.zero_testBit
  have q0 : qC (fun iq => (0 : Nat).testBit iq) (tN Aq 1) = 0 := by
    have hq : ∀ mq, qC (fun iq => (0 : Nat).testBit iq) mq = 0 := by
      intro mq
      induction mq with
      | zero => rfl
      | succ mq ih => rw [qC_f (t0 mq), ih]
    exact hq _
  obtain ⟨f8, b⟩ := @n_ex9 so g bq jr sc (va_up Rq 7 f7) w (tN Aq 1) (wF Aq) h1 h3 h4.2.1 (fun iq _ => wF_lt hI iq) (by rw [qV_n (by omega)]; exact hz.1.1) (tN Aq 1) 0 (wF Aq) f7 0 none (by omega) ⟨fun iq hi => (wF_get hI hi).2, fun iq jq hi hj he => w_inj hI (wF_get hI hi).1 (by rw [he]; exact (wF_get hI hj).1), fun iq _ hh => absurd (show (0 : Nat).testBit iq = true from hh) (by rw [t0]; decide), fun _ _ _ => rfl⟩ a1 (fun jq hj => absurd hj (Nat.not_lt_zero _)) (by show 0 + 0 = qC (fun iq => (0 : Nat).testBit iq) _; rw [q0])
  refine ⟨f8, ?_⟩
  rw [qV_vv, qV_vv] at b
  simp (disch := omega) only [s_X8_exchanges_0, s_X8_exchanges_1, s_X8_exchanges_2, s_X8_exchanges_5, s_X8_exchanges_6, s_X8_exchanges_7, s_X8_exchanges_8, ↓mg0, ↓mg1, ↓mg2, ↓mg3, ↓mg4, ↓mg5, ↓mg6, ↓mg7, ↓mg8, ↓mg9, ↓mg10, ↓mg11, ↓mg12, ↓mg13, ↓mg14, ↓mp0, ↓mp5, ↓mp11, ↓mp12, ↓mp13, ↓mp14, ↓ml1, ↓ml2, ↓ml3, ↓ml4, ↓ml5, ↓ml7, ↓ml8, ↓ml9, ↓mlr, ↓mt1, ↓mt2, ↓mt3, ↓mt4, ↓mt5, ↓mt7, ↓mt8, ↓mt9, ↓mlz, ↓mtz, mm_i, cond_true, cond_false, qAv, qAn, zN_neg1, nL0, nL1, nL2, nL3, nL4, nL5, nL6, nL7, nL8, nL9, nL10, nL11, nL12, nL13, nL14, nL20, nL21, nL22, nL23, nL25, nL32, nL33, nL39, nL40, nL43, nL44, nL99, nL100, nL120, nL216, nL217, nL218, nL219, nL220, nL221, nL500, nL999, nL1000, nL10000, nL100000, a2]
  exact b
end QA
