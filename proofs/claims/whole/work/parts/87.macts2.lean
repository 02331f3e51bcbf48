/-! the pure part: the model: back, exchanges, counts, told() -/
section QA
variable {so : Nat → Nat} {g : pwG} {aq bq jr : Nat} {w : pwW} {Aq Bq : TA} {nq sq kq oq : Nat} {pq rq tq uq : Int32} {fq hq : Nat → Int32} {sc : Nat → Int32} {Rq : Nat → Nat → Int32}
def pB1 (fq f1 : Nat → Int32) (kz : Nat) : Prop := (∀ jq, ¬ (11 ≤ jq ∧ jq < 11 + kz) → ¬ (22 ≤ jq ∧ jq < 22 + kz) → f1 jq = fq jq) ∧ ∀ iq, iq < kz → f1 (22 + iq) = zN iq ∧ f1 (11 + iq) = zM
theorem n_bk11 (hn : nq ≤ 10) (h0 : fq 0 = zN nq) : ∀ (dq kz : Nat) (f1 : Nat → Int32), kz + dq = nq → pB1 fq f1 kz → ∃ f2, pB1 fq f2 nq ∧ pwX so 169 11 [some (.ref aq), some (.int pq), some (.int (zN kz)), none, none] [] g (mkA aq 221 f1 w) = pwX so 169 38 [some (.ref aq), some (.int pq), some (.int (zN nq)), none, none] [] g (mkA aq 221 f2 w) := by
  intro dq
  induction dq with
  | zero =>
    intro kz f1 h1 hp
    have h1 : kz = nq := by omega
    subst h1
    have e0 : f1 0 = zN kz := by rw [hp.1 0 (by omega) (by omega)]; exact h0
    refine ⟨f1, hp, ?_⟩
    simp (disch := omega) only [s_X8_goBack_11, s_X8_goBack_12, s_X8_goBack_13, s_X8_goBack_14, s_X8_goBack_15, ↓md_ld, zN_neg1, nL0, nL1, nL2, nL3, nL4, nL5, nL6, nL7, nL8, nL9, nL10, nL11, nL12, nL13, nL14, nL20, nL21, nL22, nL23, nL25, nL32, nL33, nL39, nL40, nL43, nL44, nL99, nL100, nL120, nL216, nL217, nL218, nL219, nL220, nL221, nL500, nL999, nL1000, nL10000, nL100000, sh33, zN_lt, zN_le, zN_eq, zN_ge0, zN_lt0, zN_nm, zN_mn, zN_mlt, zN_ltm, zN_lem, zN_mle, zN_m1, zN_m2, zN_addm, zN_ofNat, zN_beq, zN_add, zN_sub, zN_mul, zN_rem, qT_lt, qF_lt, qT_le, qF_le, qT_eq, qF_eq, ↓reduceIte, and_true, true_and, false_and, and_false, not_true_eq_false, not_false_eq_true, decide_true, decide_false, Bool.true_or, Bool.or_true, Bool.false_or, Bool.or_false, cond_true, cond_false, e0]
  | succ dq ih =>
    intro kz f1 h1 hp
    obtain ⟨p1, p2⟩ := hp
    have e0 : f1 0 = zN nq := by rw [p1 0 (by omega) (by omega)]; exact h0
    obtain ⟨f2, i1, i2⟩ := ih (kz + 1) (upd (upd f1 (22 + kz) (zN kz)) (11 + kz) zM) (by omega) (by
      refine ⟨fun jq a b => ?_, fun iq hi => ?_⟩
      · rw [qU_n (by omega), qU_n (by omega)]; exact p1 jq (by omega) (by omega)
      · by_cases hx : iq = kz
        · subst hx; rw [qU_s, qU_n (by omega), qU_s]; exact ⟨rfl, rfl⟩
        · rw [qU_n (by omega), qU_n (by omega), qU_n (by omega), qU_n (by omega)]; exact p2 iq (by omega))
    refine ⟨f2, i1, ?_⟩
    rw [← i2, s_X8_goBack_11]
    simp (disch := omega) only [s_X8_goBack_12, s_X8_goBack_13, s_X8_goBack_14, s_X8_goBack_15, s_X8_goBack_18, s_X8_goBack_19, s_X8_goBack_21, s_X8_goBack_22, s_X8_goBack_23, s_X8_goBack_24, s_X8_goBack_25, s_X8_goBack_26, s_X8_goBack_28, s_X8_goBack_29, s_X8_goBack_30, s_X8_goBack_31, s_X8_goBack_32, s_X8_goBack_35, ↓md_ld, ↓md_st, zN_neg1, nL0, nL1, nL2, nL3, nL4, nL5, nL6, nL7, nL8, nL9, nL10, nL11, nL12, nL13, nL14, nL20, nL21, nL22, nL23, nL25, nL32, nL33, nL39, nL40, nL43, nL44, nL99, nL100, nL120, nL216, nL217, nL218, nL219, nL220, nL221, nL500, nL999, nL1000, nL10000, nL100000, sh33, zN_lt, zN_le, zN_eq, zN_ge0, zN_lt0, zN_nm, zN_mn, zN_mlt, zN_ltm, zN_lem, zN_mle, zN_m1, zN_m2, zN_addm, zN_ofNat, zN_beq, zN_add, zN_sub, zN_mul, zN_rem, qT_lt, qF_lt, qT_le, qF_le, qT_eq, qF_eq, ↓reduceIte, and_true, true_and, false_and, and_false, not_true_eq_false, not_false_eq_true, decide_true, decide_false, Bool.true_or, Bool.or_true, Bool.false_or, Bool.or_false, cond_true, cond_false, e0]
theorem n_bk81 {zq : Nat} (hs : sq < 4) : ∀ dq cz, cz + dq = 20 → pwX so 169 81 [some (.ref aq), some (.int pq), some (.int (zN zq)), some (.int (zN (44 + 43 * sq))), some (.int (zN cz))] [] g (mkA aq 221 (qRg fq (44 + 43 * sq + 23) cz zM) w) = pwX so 169 104 [some (.ref aq), some (.int pq), some (.int (zN zq)), some (.int (zN (44 + 43 * sq))), some (.int (zN 20))] [] g (mkA aq 221 (qRg fq (44 + 43 * sq + 23) 20 zM) w) := by
  intro dq
  induction dq with
  | zero =>
    intro cz h1
    have h1 : cz = 20 := by omega
    subst h1
    simp (disch := omega) only [s_X8_goBack_81, s_X8_goBack_83, s_X8_goBack_85, zN_neg1, nL0, nL1, nL2, nL3, nL4, nL5, nL6, nL7, nL8, nL9, nL10, nL11, nL12, nL13, nL14, nL20, nL21, nL22, nL23, nL25, nL32, nL33, nL39, nL40, nL43, nL44, nL99, nL100, nL120, nL216, nL217, nL218, nL219, nL220, nL221, nL500, nL999, nL1000, nL10000, nL100000, sh33, zN_lt, zN_le, zN_eq, zN_ge0, zN_lt0, zN_nm, zN_mn, zN_mlt, zN_ltm, zN_lem, zN_mle, zN_m1, zN_m2, zN_addm, zN_ofNat, zN_beq, zN_add, zN_sub, zN_mul, zN_rem, qT_lt, qF_lt, qT_le, qF_le, qT_eq, qF_eq, ↓reduceIte, and_true, true_and, false_and, and_false, not_true_eq_false, not_false_eq_true, decide_true, decide_false, Bool.true_or, Bool.or_true, Bool.false_or, Bool.or_false, cond_true, cond_false]
  | succ dq ih =>
    intro cz h1
    have h5 := ih (cz + 1) (by omega)
    rw [s_X8_goBack_81]
    simp (disch := omega) only [s_X8_goBack_83, s_X8_goBack_85, s_X8_goBack_88, s_X8_goBack_89, s_X8_goBack_90, s_X8_goBack_92, s_X8_goBack_93, s_X8_goBack_95, s_X8_goBack_96, s_X8_goBack_97, s_X8_goBack_98, s_X8_goBack_101, ↓md_st, zN_neg1, nL0, nL1, nL2, nL3, nL4, nL5, nL6, nL7, nL8, nL9, nL10, nL11, nL12, nL13, nL14, nL20, nL21, nL22, nL23, nL25, nL32, nL33, nL39, nL40, nL43, nL44, nL99, nL100, nL120, nL216, nL217, nL218, nL219, nL220, nL221, nL500, nL999, nL1000, nL10000, nL100000, sh33, zN_lt, zN_le, zN_eq, zN_ge0, zN_lt0, zN_nm, zN_mn, zN_mlt, zN_ltm, zN_lem, zN_mle, zN_m1, zN_m2, zN_addm, zN_ofNat, zN_beq, zN_add, zN_sub, zN_mul, zN_rem, qT_lt, qF_lt, qT_le, qF_le, qT_eq, qF_eq, ↓reduceIte, and_true, true_and, false_and, and_false, not_true_eq_false, not_false_eq_true, decide_true, decide_false, Bool.true_or, Bool.or_true, Bool.false_or, Bool.or_false, cond_true, cond_false, qR_1]
    exact h5
def pB2 (fq f1 : Nat → Int32) (sz : Nat) : Prop := (∀ jq, (∀ s2, s2 < sz → jq ≠ 44 + 43 * s2 + 5 ∧ jq ≠ 44 + 43 * s2 + 12 ∧ ¬ (44 + 43 * s2 + 23 ≤ jq ∧ jq < 44 + 43 * s2 + 43)) → f1 jq = fq jq) ∧ ∀ s2, s2 < sz → f1 (44 + 43 * s2 + 5) = zN 0 ∧ f1 (44 + 43 * s2 + 12) = zN 0 ∧ ∀ cq, cq < 20 → f1 (44 + 43 * s2 + 23 + cq) = zM
theorem n_bk52 (hn : nq ≤ 4) (h43 : fq 43 = zN nq) : ∀ (dq sz : Nat) (f1 : Nat → Int32) (o3 o4 : Option Value), sz + dq = nq → pB2 fq f1 sz → ∃ f2, pB2 fq f2 nq ∧ pwX so 169 52 [some (.ref aq), some (.int pq), some (.int (zN sz)), o3, o4] [] g (mkA aq 221 f1 w) = some (.inl (some (.int (pq))), g, (mkA aq 221 f2 w)) := by
  intro dq
  induction dq with
  | zero =>
    intro sz f1 o3 o4 h1 hp
    have h1 : sz = nq := by omega
    subst h1
    have e0 : f1 43 = zN sz := by rw [hp.1 43 (fun s2 _ => by omega)]; exact h43
    refine ⟨f1, hp, ?_⟩
    simp (disch := omega) only [s_X8_goBack_52, s_X8_goBack_53, s_X8_goBack_54, s_X8_goBack_56, s_X8_goBack_57, s_X8_goBack_110, s_X8_goBack_111, ↓md_ld, zN_neg1, nL0, nL1, nL2, nL3, nL4, nL5, nL6, nL7, nL8, nL9, nL10, nL11, nL12, nL13, nL14, nL20, nL21, nL22, nL23, nL25, nL32, nL33, nL39, nL40, nL43, nL44, nL99, nL100, nL120, nL216, nL217, nL218, nL219, nL220, nL221, nL500, nL999, nL1000, nL10000, nL100000, sh33, zN_lt, zN_le, zN_eq, zN_ge0, zN_lt0, zN_nm, zN_mn, zN_mlt, zN_ltm, zN_lem, zN_mle, zN_m1, zN_m2, zN_addm, zN_ofNat, zN_beq, zN_add, zN_sub, zN_mul, zN_rem, qT_lt, qF_lt, qT_le, qF_le, qT_eq, qF_eq, ↓reduceIte, and_true, true_and, false_and, and_false, not_true_eq_false, not_false_eq_true, decide_true, decide_false, Bool.true_or, Bool.or_true, Bool.false_or, Bool.or_false, cond_true, cond_false, e0]
  | succ dq ih =>
    intro sz f1 o3 o4 h1 hp
    obtain ⟨p1, p2⟩ := hp
    have e0 : f1 43 = zN nq := by rw [p1 43 (fun s2 _ => by omega)]; exact h43
    have hlp := @n_bk81 so g aq w sz pq (upd (upd f1 (44 + 43 * sz + 5) (zN 0)) (44 + 43 * sz + 12) (zN 0)) sz (by omega) 20 0 (by omega)
    rw [qR_0] at hlp
    obtain ⟨f2, i1, i2⟩ := ih (sz + 1) (qRg (upd (upd f1 (44 + 43 * sz + 5) (zN 0)) (44 + 43 * sz + 12) (zN 0)) (44 + 43 * sz + 23) 20 zM) (some (.int (zN (44 + 43 * sz)))) (some (.int (zN 20))) (by omega) (by
      refine ⟨fun jq a => ?_, fun s2 hs2 => ?_⟩
      · obtain ⟨a1, a2, a3⟩ := a sz (Nat.lt_succ_self _)
        rw [qR_o (by omega), qU_n a2, qU_n a1]
        exact p1 jq (fun s2 h => a s2 (by omega))
      · by_cases hx : s2 = sz
        · subst hx
          refine ⟨?_, ?_, fun cq hc => ?_⟩
          · simp (disch := omega) only [qR_o, qU_n, qU_s]
          · simp (disch := omega) only [qR_o, qU_n, qU_s]
          · simp (disch := omega) only [qR_i]
        · obtain ⟨b1, b2, b3⟩ := p2 s2 (by omega)
          refine ⟨?_, ?_, fun cq hc => ?_⟩
          · simp (disch := omega) only [qR_o, qU_n]; exact b1
          · simp (disch := omega) only [qR_o, qU_n]; exact b2
          · simp (disch := omega) only [qR_o, qU_n]; exact b3 cq hc)
    refine ⟨f2, i1, ?_⟩
    rw [← i2, s_X8_goBack_52]
    simp (disch := omega) only [s_X8_goBack_53, s_X8_goBack_54, s_X8_goBack_56, s_X8_goBack_57, s_X8_goBack_60, s_X8_goBack_61, s_X8_goBack_64, s_X8_goBack_65, s_X8_goBack_66, s_X8_goBack_67, s_X8_goBack_68, s_X8_goBack_69, s_X8_goBack_70, s_X8_goBack_71, s_X8_goBack_72, s_X8_goBack_73, s_X8_goBack_75, s_X8_goBack_76, s_X8_goBack_77, s_X8_goBack_78, s_X8_goBack_79, ↓md_ld, ↓md_st, zN_neg1, nL0, nL1, nL2, nL3, nL4, nL5, nL6, nL7, nL8, nL9, nL10, nL11, nL12, nL13, nL14, nL20, nL21, nL22, nL23, nL25, nL32, nL33, nL39, nL40, nL43, nL44, nL99, nL100, nL120, nL216, nL217, nL218, nL219, nL220, nL221, nL500, nL999, nL1000, nL10000, nL100000, sh33, zN_lt, zN_le, zN_eq, zN_ge0, zN_lt0, zN_nm, zN_mn, zN_mlt, zN_ltm, zN_lem, zN_mle, zN_m1, zN_m2, zN_addm, zN_ofNat, zN_beq, zN_add, zN_sub, zN_mul, zN_rem, qT_lt, qF_lt, qT_le, qF_le, qT_eq, qF_eq, ↓reduceIte, and_true, true_and, false_and, and_false, not_true_eq_false, not_false_eq_true, decide_true, decide_false, Bool.true_or, Bool.or_true, Bool.false_or, Bool.or_false, cond_true, cond_false, e0, qAv, n_block]
    rw [hlp]
    simp (disch := omega) only [s_X8_goBack_104, s_X8_goBack_107, zN_neg1, nL0, nL1, nL2, nL3, nL4, nL5, nL6, nL7, nL8, nL9, nL10, nL11, nL12, nL13, nL14, nL20, nL21, nL22, nL23, nL25, nL32, nL33, nL39, nL40, nL43, nL44, nL99, nL100, nL120, nL216, nL217, nL218, nL219, nL220, nL221, nL500, nL999, nL1000, nL10000, nL100000, sh33, zN_lt, zN_le, zN_eq, zN_ge0, zN_lt0, zN_nm, zN_mn, zN_mlt, zN_ltm, zN_lem, zN_mle, zN_m1, zN_m2, zN_addm, zN_ofNat, zN_beq, zN_add, zN_sub, zN_mul, zN_rem]
theorem n_goBack (hI : invT Aq) (hz : repM Aq fq) : ∃ f1, repM (tBack Aq) f1 ∧ pwX so 169 0 [some (.ref aq), none, none, none, none] [] g (mkA aq 221 fq w) = some (.inl (some (.int (zN (tN Aq 1) - zN (tL Aq 1).length))), g, (mkA aq 221 f1 w)) := by
  have h4 := hI.1
  have hz2 := hz
  obtain ⟨⟨m0, m43, m216, m217, m218, m219, m220⟩, mk, ⟨m21, mst⟩, ⟨m32, mco⟩, ms⟩ := hz2
  obtain ⟨f1, a1, a2⟩ := @n_bk11 so g aq w (tN Aq 1) (zN (tN Aq 1) - zN (tL Aq 1).length) fq h4.2.1 m0 (tN Aq 1) 0 fq (by omega) ⟨fun _ _ _ => rfl, fun iq h => absurd h (Nat.not_lt_zero _)⟩
  obtain ⟨p1, p2⟩ := a1
  have e43 : upd (upd f1 21 (zN (tN Aq 1))) 32 (zN 0) 43 = zN (tN Aq 0) := by rw [qU_n (by decide), qU_n (by decide), p1 43 (by omega) (by omega)]; exact m43
  have e0 : f1 0 = zN (tN Aq 1) := by rw [p1 0 (by omega) (by omega)]; exact m0
  have e1 : f1 43 = zN (tN Aq 0) := by rw [p1 43 (by omega) (by omega)]; exact m43
  obtain ⟨f2, b1, b2⟩ := @n_bk52 so g aq w (tN Aq 0) (zN (tN Aq 1) - zN (tL Aq 1).length) (upd (upd f1 21 (zN (tN Aq 1))) 32 (zN 0)) h4.1 e43 (tN Aq 0) 0 (upd (upd f1 21 (zN (tN Aq 1))) 32 (zN 0)) none none (by omega) ⟨fun _ _ => rfl, fun s2 h => absurd h (Nat.not_lt_zero _)⟩
  obtain ⟨q1, q2⟩ := b1
  have lo : ∀ jq, jq < 44 → f2 jq = upd (upd f1 21 (zN (tN Aq 1))) 32 (zN 0) jq := fun jq hj => q1 jq (fun s2 _ => by omega)
  refine ⟨f2, ?_, ?_⟩
  · have z1 : tT (tBack Aq) = tT Aq := rfl
    have z2 : tX (tBack Aq) = tX Aq := rfl
    have z3 : tN (tBack Aq) = tN Aq := rfl
    have hi : ∀ jq, 44 + 43 * 4 ≤ jq → f2 jq = fq jq := fun jq hj => by
      rw [q1 jq (fun s2 h => by omega), qU_n (by omega), qU_n (by omega)]
      exact p1 jq (by omega) (by omega)
    unfold repM
    rw [z1, z2, z3, bk_0, bk_L1, List.length_range]
    refine ⟨⟨?_, ?_, ?_, ?_, ?_, ?_, ?_⟩, fun k9 hk9 => ?_, ⟨?_, fun iq v9 hh => ?_⟩, ⟨?_, fun iq kq hh => by cases hh⟩, fun s2 hs2 => ?_⟩
    · rw [lo 0 (by omega), qU_n (by decide), qU_n (by decide)]; exact e0
    · rw [lo 43 (by omega)]; exact e43
    · rw [hi _ (by omega)]; exact m216
    · rw [hi _ (by omega)]; exact m217
    · rw [hi _ (by omega)]; exact m218
    · rw [hi _ (by omega)]; exact m219
    · rw [hi _ (by omega)]; exact m220
    · rw [lo _ (by omega), lo _ (by omega), qU_n (by omega), qU_n (by omega), qU_n (by omega), qU_n (by omega), p1 _ (by omega) (by omega), (p2 k9 hk9).2]
      exact ⟨(mk k9 hk9).1, rfl⟩
    · rw [lo _ (by omega), qU_n (by decide), qU_s]
    · obtain ⟨hi2, h9⟩ := List.getElem?_eq_some_iff.mp hh
      rw [List.length_range] at hi2
      rw [List.getElem_range] at h9
      subst h9
      rw [lo _ (by omega), qU_n (by omega), qU_n (by omega)]
      exact (p2 iq hi2).1
    · rw [lo _ (by omega), qU_s]; rfl
    · obtain ⟨⟨a0, a1, a2, a3, a4⟩, -⟩ := ms s2 hs2
      obtain ⟨b1, b2, b3⟩ := q2 s2 hs2
      have keep : ∀ jq, jq < 5 → f2 (44 + 43 * s2 + jq) = fq (44 + 43 * s2 + jq) := fun jq hj => by
        rw [q1 _ (fun s3 h => by omega), qU_n (by omega), qU_n (by omega)]
        exact p1 _ (by omega) (by omega)
      have k0 := keep 0 (by omega)
      rw [Nat.add_zero] at k0
      unfold repMs
      rw [bk_L (by omega), bk_L (by omega), z3]
      exact ⟨⟨k0.trans a0, (keep 1 (by omega)).trans a1, (keep 2 (by omega)).trans a2, (keep 3 (by omega)).trans a3, (keep 4 (by omega)).trans a4⟩, ⟨b1, fun iq kq hh => by cases hh⟩, ⟨b2, fun iq kq hh => by cases hh⟩, b3⟩
  · simp (disch := omega) only [s_X8_goBack_0, s_X8_goBack_1, s_X8_goBack_2, s_X8_goBack_3, s_X8_goBack_4, s_X8_goBack_6, s_X8_goBack_7, s_X8_goBack_8, s_X8_goBack_9, s_X8_goBack_10, ↓md_ld, zN_neg1, nL0, nL1, nL2, nL3, nL4, nL5, nL6, nL7, nL8, nL9, nL10, nL11, nL12, nL13, nL14, nL20, nL21, nL22, nL23, nL25, nL32, nL33, nL39, nL40, nL43, nL44, nL99, nL100, nL120, nL216, nL217, nL218, nL219, nL220, nL221, nL500, nL999, nL1000, nL10000, nL100000, m0, m21]
    rw [a2]
    simp (disch := omega) only [s_X8_goBack_38, s_X8_goBack_39, s_X8_goBack_41, s_X8_goBack_42, s_X8_goBack_43, s_X8_goBack_44, s_X8_goBack_45, s_X8_goBack_46, s_X8_goBack_48, s_X8_goBack_49, s_X8_goBack_50, s_X8_goBack_51, ↓md_ld, ↓md_st, zN_neg1, nL0, nL1, nL2, nL3, nL4, nL5, nL6, nL7, nL8, nL9, nL10, nL11, nL12, nL13, nL14, nL20, nL21, nL22, nL23, nL25, nL32, nL33, nL39, nL40, nL43, nL44, nL99, nL100, nL120, nL216, nL217, nL218, nL219, nL220, nL221, nL500, nL999, nL1000, nL10000, nL100000, e0]
    exact b2
theorem cO_map {es : List (Nat × Nat)} {fz : Nat → Nat} {cq : Nat} : cO (es.map (fun eq => (eq.1, fz eq.2))) cq = (cO es cq).map fz := by
  induction es with
  | nil => rfl
  | cons e es ih =>
    show (if e.1 = cq then some (fz e.2) else cO (es.map _) cq) = Option.map fz (if e.1 = cq then some e.2 else cO es cq)
    by_cases h : e.1 = cq
    · rw [if_pos h, if_pos h]; rfl
    · rw [if_neg h, if_neg h]; exact ih
theorem repM_swap {za zb : Nat} (hI : invT Aq) (hz : repM Aq fq) (hk : kq < tN Aq 1) (ho : oq < tN Aq 1) (hne : kq ≠ oq) (h1 : (kq, za) ∈ lAll Aq) (h2 : (oq, zb) ∈ lAll Aq) : repM (tSwap Aq kq oq) (upd (upd fq za (zN oq)) zb (zN kq)) := by
  have h4 := hI.1
  have hz2 := hz
  obtain ⟨⟨m0, m43, m216, m217, m218, m219, m220⟩, mk, ⟨m21, mst⟩, ⟨m32, mco⟩, ms⟩ := hz2
  have hcl := come_len hI
  have hsp := len_split hI (Nat.zero_le _)
  have hD : (fDn Aq 0).length = (tL Aq 1).length := by unfold fDn; rw [List.length_map]
  have fa := lo_f hI hz h1
  have fb := lo_f hI hz h2
  have hab : za ≠ zb := fun hh => by
    rw [hh, fb, zN_eq (by omega) (by omega)] at fa; exact hne fa.symm
  have ra := lo_rng hI h1
  have rb := lo_rng hI h2
  -- a place that holds a walker holds the other one of the two
  have key : ∀ (jq vq : Nat), (vq, jq) ∈ lAll Aq → vq < tN Aq 1 → upd (upd fq za (zN oq)) zb (zN kq) jq = zN (swp kq oq vq) := by
    intro jq vq hv hvl
    have fv := lo_f hI hz hv
    unfold swp
    by_cases e1 : vq = kq
    · subst e1
      have := lo_inj hI hv h1
      subst this
      rw [if_pos rfl, qU_n hab, qU_s]
    · rw [if_neg e1]
      by_cases e2 : vq = oq
      · subst e2
        have := lo_inj hI hv h2
        subst this
        rw [if_pos rfl, qU_s]
      · rw [if_neg e2, qU_n (fun hh => by subst hh; rw [fb, zN_eq (by omega) (by omega)] at fv; exact e2 fv.symm), qU_n (fun hh => by subst hh; rw [fa, zN_eq (by omega) (by omega)] at fv; exact e1 fv.symm)]
        exact fv
  have hall := hI.2.1.2.2
  have lst : ∀ (pz : Nat) (ls : List Nat), (∀ (iq vq : Nat), ls[iq]? = some vq → (vq, pz + iq) ∈ lAll Aq ∧ vq < tN Aq 1) → lsM pz (ls.map (swp kq oq)) (upd (upd fq za (zN oq)) zb (zN kq)) := by
    intro pz ls hh iq v9 hv
    rw [List.getElem?_map] at hv
    obtain ⟨u9, hu, rfl⟩ := Option.map_eq_some_iff.mp hv
    obtain ⟨x1, x2⟩ := hh iq u9 hu
    exact key _ _ x1 x2
  have out : ∀ jq, ¬ (22 ≤ jq ∧ jq < 32) → ¬ (33 ≤ jq ∧ jq < 43) → (∀ s2, s2 < 4 → ¬ (44 + 43 * s2 + 6 ≤ jq ∧ jq < 44 + 43 * s2 + 12) ∧ ¬ (44 + 43 * s2 + 23 ≤ jq ∧ jq < 44 + 43 * s2 + 43)) → upd (upd fq za (zN oq)) zb (zN kq) jq = fq jq := by
    intro jq x1 x2 x3
    rw [qU_n (fun hh => by
      subst hh
      rcases rb with h | h | ⟨s2, h5, h6⟩
      · exact x1 h
      · exact x2 h
      · exact h6.elim (x3 s2 h5).1 (x3 s2 h5).2), qU_n (fun hh => by
      subst hh
      rcases ra with h | h | ⟨s2, h5, h6⟩
      · exact x1 h
      · exact x2 h
      · exact h6.elim (x3 s2 h5).1 (x3 s2 h5).2)]
  refine ⟨⟨?_, ?_, ?_, ?_, ?_, ?_, ?_⟩, fun k9 hk9 => ?_, ⟨?_, ?_⟩, ⟨?_, ?_⟩, fun s2 hs2 => ?_⟩
  · rw [out 0 (by omega) (by omega) (fun s2 _ => by omega)]; exact m0
  · rw [out 43 (by omega) (by omega) (fun s2 _ => by omega)]; exact m43
  · rw [out 216 (by omega) (by omega) (fun s2 _ => by omega)]; exact m216
  · rw [out 217 (by omega) (by omega) (fun s2 _ => by omega)]; exact m217
  · rw [out 218 (by omega) (by omega) (fun s2 _ => by omega)]; exact m218
  · rw [out 219 (by omega) (by omega) (fun s2 _ => by omega)]; exact m219
  · rw [out 220 (by omega) (by omega) (fun s2 _ => by omega)]; exact m220
  · have hk9 : k9 < tN Aq 1 := hk9
    rw [out _ (by omega) (by omega) (fun s2 _ => by omega), out _ (by omega) (by omega) (fun s2 _ => by omega)]
    exact mk k9 hk9
  · rw [sw_L (by decide), List.length_map, out 21 (by omega) (by omega) (fun s2 _ => by omega)]; exact m21
  · rw [sw_L (by decide)]
    refine lst 22 _ fun iq vq hv => ⟨lo_mem.mpr (Or.inr (Or.inl ⟨iq, hv, rfl⟩)), hall vq ?_⟩
    rw [wDn_eq 0 (Nat.zero_le _)]; exact List.mem_append_right _ (List.mem_of_getElem? hv)
  · rw [sw_L (by decide), List.length_map, out 32 (by omega) (by omega) (fun s2 _ => by omega)]; exact m32
  · rw [sw_L (by decide)]
    refine lst 33 _ fun iq vq hv => ⟨lo_mem.mpr (Or.inl ⟨iq, hv, rfl⟩), hall vq ?_⟩
    exact List.mem_append_left _ (List.mem_of_getElem? hv)
  · have hs2 : s2 < tN Aq 0 := hs2
    obtain ⟨⟨⟨j1, j2⟩, ⟨j3, j4⟩, j5, j6, j7, j8⟩, j9, j10, j11⟩ := hI.2.2 s2 hs2
    have hrd2 := (rd_le hI hs2).1
    have hw := walk_lt hI hs2
    obtain ⟨⟨a0, a1, a2, a3, a4⟩, ⟨b0, b1⟩, ⟨c0, c1⟩, d⟩ := ms s2 hs2
    have z3 : tN (tSwap Aq kq oq) = tN Aq := rfl
    unfold repMs
    rw [sw_L (by omega), sw_R (by omega), sw_C, List.length_map, z3]
    refine ⟨⟨?_, ?_, ?_, ?_, ?_⟩, ⟨?_, ?_⟩, ⟨?_, lsM_eq c1 fun jz hj => ?_⟩, fun cq hc => ?_⟩
    · rw [out _ (by omega) (by omega) (fun s3 _ => by omega)]; exact a0
    · rw [out _ (by omega) (by omega) (fun s3 _ => by omega)]; exact a1
    · rw [out _ (by omega) (by omega) (fun s3 _ => by omega)]; exact a2
    · rw [out _ (by omega) (by omega) (fun s3 _ => by omega)]; exact a3
    · rw [out _ (by omega) (by omega) (fun s3 _ => by omega)]; exact a4
    · rw [out _ (by omega) (by omega) (fun s3 _ => by omega)]; exact b0
    · exact lst _ _ fun iq vq hv => ⟨lo_mem.mpr (Or.inr (Or.inr ⟨s2, hs2, Or.inl ⟨iq, hv, rfl⟩⟩)), hw.1 vq (List.mem_of_getElem? hv)⟩
    · rw [out _ (by omega) (by omega) (fun s3 _ => by omega)]; exact c0
    · rw [out _ (by omega) (by omega) (fun s3 _ => by omega)]
    · rw [cO_map]
      cases h9 : cO (tC Aq s2) cq with
      | none =>
        have h8 := d cq hc
        rw [h9] at h8
        have h8 : fq (44 + 43 * s2 + 23 + cq) = zM := h8
        show _ = zM
        rw [qU_n (fun hh => by rw [hh, fb, zN_nm (by omega)] at h8; exact h8), qU_n (fun hh => by rw [hh, fa, zN_nm (by omega)] at h8; exact h8)]
        exact h8
      | some v9 => exact key _ _ (lo_mem.mpr (Or.inr (Or.inr ⟨s2, hs2, Or.inr ⟨cq, cO_mem h9, rfl⟩⟩))) (hw.2 _ (cO_mem h9))
theorem n_goExch (h1 : 1 ≤ jr) (h3 : jr ≤ 3) (hI : invT Aq) (hz : repM Aq (Rq jr)) (hk : kq < tN Aq 1) (ho : oq < tN Aq 1) (hne : kq ≠ oq) : ∃ f1 f7 : Nat → Int32, repM (tSwap Aq kq oq) f1 ∧ pwX so 168 0 [some (.ref bq), some (.ref (bq + jr)), some (.int (zN kq)), some (.int (zN oq)), none, none, none] [] g (mkM bq sc Rq w) = some (.inl (some (.int (zN (aWr Aq) - zN (aWr (tSwap Aq kq oq))))), g, (mkM bq sc (va_up (va_up Rq jr f1) 7 f7) w)) := by
  obtain ⟨f7, a1⟩ := @n_wrong so g bq jr sc Rq w Aq h1 h3 hI hz
  obtain ⟨za, b1, b2⟩ := @n_slot so g (bq + jr) (mkM bq sc (va_up Rq 7 f7) w) Aq kq (Rq jr) hI hz hk
  obtain ⟨zb, c1, c2⟩ := @n_slot so g (bq + jr) (mkM bq sc (va_up Rq 7 f7) w) Aq oq (Rq jr) hI hz ho
  have e7 : Rq jr = (va_up Rq 7 f7) jr := by rw [qV_n (by omega)]
  rw [e7, mr_in h1 h3] at b2 c2
  have l1 := lo_lt hI b1
  have l2 := lo_lt hI c1
  have hs := repM_swap hI hz hk ho hne b1 c1
  obtain ⟨f8, d1⟩ := @n_wrong so g bq jr sc (va_up (va_up Rq 7 f7) jr (upd (upd (Rq jr) za (zN oq)) zb (zN kq))) w (tSwap Aq kq oq) h1 h3 (inv_Swap hI hk ho) (by rw [qV_s]; exact hs)
  refine ⟨_, f8, hs, ?_⟩
  have st1 : ∀ {Rz : Nat → Nat → Int32} {iq : Nat} {vq : Int32} {hz : pwW → Option pwO}, iq < 221 → (pwSt0 (mkM bq sc Rz w) (bq + jr) (zN iq) vq).bind hz = hz (mkM bq sc (va_up Rz jr (upd (Rz jr) iq vq)) w) := fun hi => mm_st h1 (by omega) (by omega) (ms3 h3).symm hi
  have cm : va_up (va_up (va_up Rq 7 f7) jr (upd (upd (Rq jr) za (zN oq)) zb (zN kq))) 7 f8 = va_up (va_up Rq jr (upd (upd (Rq jr) za (zN oq)) zb (zN kq))) 7 f8 := by
    funext iq
    by_cases x1 : iq = 7
    · subst x1; rw [va_up_self, va_up_self]
    · rw [va_up_ne _ _ x1, va_up_ne _ _ x1]
      by_cases x2 : iq = jr
      · subst x2; rw [va_up_self, va_up_self]
      · rw [va_up_ne _ _ x2, va_up_ne _ _ x2, va_up_ne _ _ x1]
  rw [← cm]
  have hi : pwIsC (mkM bq sc Rq w) bq 7 = true := mm_i
  simp (disch := omega) only [s_X8_goExchange_0, s_X8_goExchange_1, s_X8_goExchange_2, s_X8_goExchange_5, s_X8_goExchange_7, s_X8_goExchange_8, s_X8_goExchange_9, s_X8_goExchange_12, s_X8_goExchange_14, s_X8_goExchange_15, s_X8_goExchange_16, s_X8_goExchange_19, s_X8_goExchange_21, s_X8_goExchange_22, s_X8_goExchange_24, s_X8_goExchange_25, s_X8_goExchange_26, s_X8_goExchange_27, s_X8_goExchange_29, s_X8_goExchange_30, s_X8_goExchange_31, s_X8_goExchange_33, s_X8_goExchange_34, s_X8_goExchange_35, s_X8_goExchange_38, s_X8_goExchange_39, mm_i, cond_true, qAv, a1, b2, c2, ↓st1, qV_n, qV_s, qV_vv, d1]
end QA
