/-! the pure part: the model's actions on a row -/
def qRg (fq : Nat → Int32) (lo nq : Nat) (vq : Int32) : Nat → Int32 := fun jq => if lo ≤ jq ∧ jq < lo + nq then vq else fq jq
section QD
variable {fq : Nat → Int32} {lo nq jq : Nat} {vq : Int32}
theorem qR_i (h1 : lo ≤ jq) (h2 : jq < lo + nq) : qRg fq lo nq vq jq = vq := if_pos ⟨h1, h2⟩
theorem qR_o (h : jq < lo ∨ lo + nq ≤ jq) : qRg fq lo nq vq jq = fq jq := if_neg (by omega)
theorem qR_0 : qRg fq lo 0 vq = fq := by funext jq; exact qR_o (by omega)
theorem qR_1 : upd (qRg fq lo nq vq) (lo + nq) vq = qRg fq lo (nq + 1) vq := by
  funext jq
  unfold upd
  by_cases h1 : jq = lo + nq
  · subst h1; rw [if_pos rfl, qR_i (by omega) (by omega)]
  · rw [if_neg h1]
    by_cases h2 : lo ≤ jq ∧ jq < lo + nq
    · rw [qR_i h2.1 h2.2, qR_i h2.1 (by omega)]
    · rw [qR_o (by omega), qR_o (by omega)]
end QD
section QA
variable {so : Nat → Nat} {g : pwG} {aq : Nat} {w : pwW} {Aq Bq : TA} {nq sq kq oq : Nat} {pq rq tq uq : Int32} {fq hq : Nat → Int32}
theorem n_put {iq : Nat} (h : iq < 221) : pwX so 166 0 [some (.ref aq), some (.int (zN iq)), some (.int pq), none] [] g (mkA aq 221 fq w) = some (.inl (some (.int (fq iq))), g, (mkA aq 221 (upd fq iq pq) w)) := by
  simp (disch := omega) only [s_X8_put_0, s_X8_put_1, s_X8_put_2, s_X8_put_3, s_X8_put_4, s_X8_put_5, s_X8_put_6, s_X8_put_7, s_X8_put_8, s_X8_put_9, ↓md_ld, ↓md_st]
theorem repM_num {jq vq iq : Nat} (hI : invT Aq) (hz : repM Aq fq) (h : (jq = 2 ∧ iq = 216) ∨ (jq = 3 ∧ iq = 217) ∨ (16 ≤ jq ∧ jq < 20 ∧ iq = 44 + 43 * (jq - 16) + 3)) : repM (tNum Aq jq vq) (upd fq iq (zN vq)) := by
  have h4 := hI.1
  have hcl := come_len hI
  have hsp := len_split hI (Nat.zero_le _)
  have hD : (fDn Aq 0).length = (tL Aq 1).length := by unfold fDn; rw [List.length_map]
  obtain ⟨⟨m0, m43, m216, m217, m218, m219, m220⟩, mk, ⟨m21, mst⟩, ⟨m32, mco⟩, ms⟩ := hz
  have hN : ∀ z9, z9 ≠ jq → tN (tNum Aq jq vq) z9 = tN Aq z9 := fun z9 hz => nm_N hz
  have hNs : tN (tNum Aq jq vq) jq = vq := nm_Ns
  refine ⟨⟨?_, ?_, ?_, ?_, ?_, ?_, ?_⟩, fun k9 hk => ?_, ⟨?_, lsM_eq mst fun jz hj => by rw [qU_n (by have hj : jz < (tL Aq 1).length := hj; omega)]⟩, ⟨?_, lsM_eq mco fun jz hj => by rw [qU_n (by have hj : jz < (tL Aq 0).length := hj; omega)]⟩, fun s2 hs2 => ?_⟩
  · rw [qU_n (by omega), hN 1 (by omega)]; exact m0
  · rw [qU_n (by omega), hN 0 (by omega)]; exact m43
  · rcases h with ⟨rfl, rfl⟩ | ⟨rfl, rfl⟩ | h
    · rw [qU_s, hNs]
    · rw [qU_n (by decide), hN 2 (by decide)]; exact m216
    · rw [qU_n (by omega), hN 2 (by omega)]; exact m216
  · rcases h with ⟨rfl, rfl⟩ | ⟨rfl, rfl⟩ | h
    · rw [qU_n (by decide), hN 3 (by decide)]; exact m217
    · rw [qU_s, hNs]
    · rw [qU_n (by omega), hN 3 (by omega)]; exact m217
  · rw [qU_n (by omega)]; exact m218
  · rw [qU_n (by omega)]; exact m219
  · rw [qU_n (by omega)]; exact m220
  · rw [hN 1 (by omega)] at hk
    rw [qU_n (by omega), qU_n (by omega)]; exact mk k9 hk
  · rw [qU_n (by omega)]; exact m21
  · rw [qU_n (by omega)]; exact m32
  · rw [hN 0 (by omega)] at hs2
    obtain ⟨⟨⟨j1, j2⟩, ⟨j3, j4⟩, j5, j6, j7, j8⟩, j9, j10, j11⟩ := hI.2.2 s2 hs2
    have hrd2 := (rd_le hI hs2).1
    obtain ⟨⟨a0, a1, a2, a3, a4⟩, ⟨b0, b1⟩, ⟨c0, c1⟩, d⟩ := ms s2 hs2
    unfold repMs
    rw [hN (4 + s2) (by omega), hN (8 + s2) (by omega), hN (12 + s2) (by omega), hN (20 + s2) (by omega)]
    refine ⟨⟨?_, ?_, ?_, ?_, ?_⟩, ⟨?_, lsM_eq b1 fun jz hj => ?_⟩, ⟨?_, lsM_eq c1 fun jz hj => ?_⟩, fun cq hc => ?_⟩
    · rw [qU_n (by omega)]; exact a0
    · rw [qU_n (by omega)]; exact a1
    · rw [qU_n (by omega)]; exact a2
    · by_cases hx : 16 + s2 = jq
      · subst hx
        have hi : iq = 44 + 43 * s2 + 3 := by omega
        subst hi
        rw [qU_s, hNs]
      · rw [qU_n (by omega), hN _ hx]; exact a3
    · rw [qU_n (by omega)]; exact a4
    · rw [qU_n (by omega)]; exact b0
    · have hj : jz < (tL Aq (4 + s2)).length := hj
      rw [qU_n (by omega)]
    · rw [qU_n (by omega)]; exact c0
    · have hj : jz < (tL Aq (8 + s2)).length := hj
      rw [qU_n (by omega)]
    · rw [qU_n (by omega)]; exact d cq hc
theorem repM_letter (hI : invT Aq) (hz : repM Aq fq) (hk : kq < tN Aq 1) : repM (tLetter Aq kq pq) (upd fq (1 + kq) pq) := by
  have h4 := hI.1
  have hcl := come_len hI
  have hsp := len_split hI (Nat.zero_le _)
  have hD : (fDn Aq 0).length = (tL Aq 1).length := by unfold fDn; rw [List.length_map]
  obtain ⟨⟨m0, m43, m216, m217, m218, m219, m220⟩, mk, ⟨m21, mst⟩, ⟨m32, mco⟩, ms⟩ := hz
  refine ⟨⟨?_, ?_, ?_, ?_, ?_, ?_, ?_⟩, fun k9 hk9 => ?_, ⟨?_, lsM_eq mst fun jz hj => by rw [qU_n (by have hj : jz < (tL Aq 1).length := hj; omega)]⟩, ⟨?_, lsM_eq mco fun jz hj => by rw [qU_n (by have hj : jz < (tL Aq 0).length := hj; omega)]⟩, fun s2 hs2 => ?_⟩
  · rw [qU_n (by omega)]; exact m0
  · rw [qU_n (by omega)]; exact m43
  · rw [qU_n (by omega)]; exact m216
  · rw [qU_n (by omega)]; exact m217
  · rw [qU_n (by omega)]; exact m218
  · rw [qU_n (by omega)]; exact m219
  · rw [qU_n (by omega)]; exact m220
  · have hk9 : k9 < tN Aq 1 := hk9
    rw [qU_n (show 11 + k9 ≠ 1 + kq by omega)]
    refine ⟨?_, (mk k9 hk9).2⟩
    show upd fq (1 + kq) pq (1 + k9) = upd (tE Aq) kq pq k9
    by_cases hx : k9 = kq
    · subst hx; rw [qU_s, qU_s]
    · rw [qU_n (by omega), qU_n hx]; exact (mk k9 hk9).1
  · rw [qU_n (by omega)]; exact m21
  · rw [qU_n (by omega)]; exact m32
  · have hs2 : s2 < tN Aq 0 := hs2
    obtain ⟨⟨⟨j1, j2⟩, ⟨j3, j4⟩, j5, j6, j7, j8⟩, j9, j10, j11⟩ := hI.2.2 s2 hs2
    have hrd2 := (rd_le hI hs2).1
    exact repMs_eq (Bq := tLetter Aq kq pq) (ms s2 hs2) rfl rfl rfl (by omega) (by omega) (fun jq hj => qU_n (by omega)) (fun cq hc => by rw [qU_n (by omega)]; exact (ms s2 hs2).2.2.2 cq hc)
theorem n_goWalker (hI : invT Aq) (hz : repM Aq fq) (h10 : tN Aq 1 < 10) : ∃ f1, repM (tWalker Aq pq) f1 ∧ pwX so 163 0 [some (.ref aq), some (.int pq), none] [] g (mkA aq 221 fq w) = some (.inl (some (.int (zN (tN Aq 1)))), g, (mkA aq 221 f1 w)) := by
  have h4 := hI.1
  have hcl := come_len hI
  have hsp := len_split hI (Nat.zero_le _)
  have hD : (fDn Aq 0).length = (tL Aq 1).length := by unfold fDn; rw [List.length_map]
  obtain ⟨⟨m0, m43, m216, m217, m218, m219, m220⟩, mk, ⟨m21, mst⟩, ⟨m32, mco⟩, ms⟩ := hz
  refine ⟨upd (upd (upd (upd (upd fq (1 + tN Aq 1) pq) (11 + tN Aq 1) zM) (22 + (tL Aq 1).length) (zN (tN Aq 1))) 21 (zN ((tL Aq 1).length + 1))) 0 (zN (tN Aq 1 + 1)), ?_, ?_⟩
  · have hev : ∀ jq, jq ≠ 0 → jq ≠ 21 → jq ≠ 1 + tN Aq 1 → jq ≠ 11 + tN Aq 1 → jq ≠ 22 + (tL Aq 1).length → upd (upd (upd (upd (upd fq (1 + tN Aq 1) pq) (11 + tN Aq 1) zM) (22 + (tL Aq 1).length) (zN (tN Aq 1))) 21 (zN ((tL Aq 1).length + 1))) 0 (zN (tN Aq 1 + 1)) jq = fq jq := fun jq a b c d e => by rw [qU_n a, qU_n b, qU_n e, qU_n d, qU_n c]
    have hN : ∀ jq, jq ≠ 1 → tN (tWalker Aq pq) jq = tN Aq jq := fun jq hj => by show va_up (tN Aq) 1 _ jq = _; exact va_up_ne _ _ hj
    have hL : ∀ jq, 4 ≤ jq → tL (tWalker Aq pq) jq = tL Aq jq := fun jq hj => by show va_up (tL Aq) 1 _ jq = _; exact va_up_ne _ _ (by omega)
    have hL0 : tL (tWalker Aq pq) 0 = tL Aq 0 := rfl
    have hL1 : tL (tWalker Aq pq) 1 = tL Aq 1 ++ [tN Aq 1] := rfl
    have hN1 : tN (tWalker Aq pq) 1 = tN Aq 1 + 1 := rfl
    unfold repM
    rw [hL0, hL1, hN1, hN 0 (by decide), hN 2 (by decide), hN 3 (by decide)]
    refine ⟨⟨?_, ?_, ?_, ?_, ?_, ?_, ?_⟩, fun k9 hk9 => ?_, ⟨?_, lsM_snoc mst (fun jz hj => ?_) ?_⟩, ⟨?_, lsM_eq mco fun jz hj => ?_⟩, fun s2 hs2 => ?_⟩
    · rw [qU_s]
    · rw [hev _ (by omega) (by omega) (by omega) (by omega) (by omega)]; exact m43
    · rw [hev _ (by omega) (by omega) (by omega) (by omega) (by omega)]; exact m216
    · rw [hev _ (by omega) (by omega) (by omega) (by omega) (by omega)]; exact m217
    · rw [hev _ (by omega) (by omega) (by omega) (by omega) (by omega)]; exact m218
    · rw [hev _ (by omega) (by omega) (by omega) (by omega) (by omega)]; exact m219
    · rw [hev _ (by omega) (by omega) (by omega) (by omega) (by omega)]; exact m220
    · show _ = upd (tE Aq) (tN Aq 1) pq k9 ∧ _ = upd (tK Aq) (tN Aq 1) zM k9
      by_cases hx : k9 = tN Aq 1
      · subst hx
        simp (disch := omega) only [qU_n, qU_s, and_self]
      · rw [hev _ (by omega) (by omega) (by omega) (by omega) (by omega), hev _ (by omega) (by omega) (by omega) (by omega) (by omega), qU_n hx, qU_n hx]
        exact mk k9 (by omega)
    · rw [List.length_append, List.length_singleton]
      simp (disch := omega) only [qU_n, qU_s]
    · rw [hev _ (by omega) (by omega) (by omega) (by omega) (by omega)]
    · simp (disch := omega) only [qU_n, qU_s]
    · rw [hev _ (by omega) (by omega) (by omega) (by omega) (by omega)]; exact m32
    · rw [hev _ (by omega) (by omega) (by omega) (by omega) (by omega)]
    · obtain ⟨⟨⟨j1, j2⟩, ⟨j3, j4⟩, j5, j6, j7, j8⟩, j9, j10, j11⟩ := hI.2.2 s2 hs2
      have hrd2 := (rd_le hI hs2).1
      obtain ⟨⟨a0, a1, a2, a3, a4⟩, ⟨b0, b1⟩, ⟨c0, c1⟩, d⟩ := ms s2 hs2
      unfold repMs
      rw [hN (4 + s2) (by omega), hN (8 + s2) (by omega), hN (12 + s2) (by omega), hN (16 + s2) (by omega), hN (20 + s2) (by omega), hL (4 + s2) (by omega), hL (8 + s2) (by omega)]
      refine ⟨⟨?_, ?_, ?_, ?_, ?_⟩, ⟨?_, lsM_eq b1 fun jz hj => ?_⟩, ⟨?_, lsM_eq c1 fun jz hj => ?_⟩, fun cq hc => ?_⟩
      · rw [hev _ (by omega) (by omega) (by omega) (by omega) (by omega)]; exact a0
      · rw [hev _ (by omega) (by omega) (by omega) (by omega) (by omega)]; exact a1
      · rw [hev _ (by omega) (by omega) (by omega) (by omega) (by omega)]; exact a2
      · rw [hev _ (by omega) (by omega) (by omega) (by omega) (by omega)]; exact a3
      · rw [hev _ (by omega) (by omega) (by omega) (by omega) (by omega)]; exact a4
      · rw [hev _ (by omega) (by omega) (by omega) (by omega) (by omega)]; exact b0
      · rw [hev _ (by omega) (by omega) (by omega) (by omega) (by omega)]
      · rw [hev _ (by omega) (by omega) (by omega) (by omega) (by omega)]; exact c0
      · rw [hev _ (by omega) (by omega) (by omega) (by omega) (by omega)]
      · rw [hev _ (by omega) (by omega) (by omega) (by omega) (by omega)]; exact d cq hc
  · simp (disch := omega) only [s_X8_goWalker_0, s_X8_goWalker_1, s_X8_goWalker_2, s_X8_goWalker_3, s_X8_goWalker_4, s_X8_goWalker_5, s_X8_goWalker_6, s_X8_goWalker_7, s_X8_goWalker_8, s_X8_goWalker_9, s_X8_goWalker_10, s_X8_goWalker_11, s_X8_goWalker_13, s_X8_goWalker_14, s_X8_goWalker_15, s_X8_goWalker_16, s_X8_goWalker_17, s_X8_goWalker_18, s_X8_goWalker_20, s_X8_goWalker_21, s_X8_goWalker_23, s_X8_goWalker_24, s_X8_goWalker_25, s_X8_goWalker_26, s_X8_goWalker_27, s_X8_goWalker_28, s_X8_goWalker_30, s_X8_goWalker_31, s_X8_goWalker_32, s_X8_goWalker_33, s_X8_goWalker_34, s_X8_goWalker_35, s_X8_goWalker_36, s_X8_goWalker_37, s_X8_goWalker_38, s_X8_goWalker_39, s_X8_goWalker_40, s_X8_goWalker_41, s_X8_goWalker_42, s_X8_goWalker_43, ↓md_ld, ↓md_st, zN_neg1, nL0, nL1, nL2, nL3, nL4, nL5, nL6, nL7, nL8, nL9, nL10, nL11, nL12, nL13, nL14, nL20, nL21, nL22, nL23, nL25, nL32, nL33, nL39, nL40, nL43, nL44, nL99, nL100, nL120, nL216, nL217, nL218, nL219, nL220, nL221, nL500, nL999, nL1000, nL10000, nL100000, sh33, zN_lt, zN_le, zN_eq, zN_ge0, zN_lt0, zN_nm, zN_mn, zN_mlt, zN_ltm, zN_lem, zN_mle, zN_m1, zN_m2, zN_addm, zN_ofNat, zN_beq, zN_add, zN_sub, zN_mul, zN_rem, qT_lt, qF_lt, qT_le, qF_le, qT_eq, qF_eq, ↓reduceIte, and_true, true_and, false_and, and_false, not_true_eq_false, not_false_eq_true, decide_true, decide_false, Bool.true_or, Bool.or_true, Bool.false_or, Bool.or_false, cond_true, cond_false, m0, m21, qU_n, qU_s]
theorem n_gs63 : ∀ dq cz, cz + dq = 20 → sq < 4 → pwX so 165 63 [some (.ref aq), some (.int pq), some (.int rq), some (.int tq), some (.int uq), some (.int (zN (44 + 43 * sq))), some (.int (zN cz))] [] g (mkA aq 221 (qRg fq (44 + 43 * sq + 23) cz zM) w) = pwX so 165 87 [some (.ref aq), some (.int pq), some (.int rq), some (.int tq), some (.int uq), some (.int (zN (44 + 43 * sq))), some (.int (zN 20))] [] g (mkA aq 221 (qRg fq (44 + 43 * sq + 23) 20 zM) w) := by
  intro dq
  induction dq with
  | zero =>
    intro cz h1 hs
    have h1 : cz = 20 := by omega
    subst h1
    simp (disch := omega) only [s_X8_goStreet_63, s_X8_goStreet_65, s_X8_goStreet_67, zN_neg1, nL0, nL1, nL2, nL3, nL4, nL5, nL6, nL7, nL8, nL9, nL10, nL11, nL12, nL13, nL14, nL20, nL21, nL22, nL23, nL25, nL32, nL33, nL39, nL40, nL43, nL44, nL99, nL100, nL120, nL216, nL217, nL218, nL219, nL220, nL221, nL500, nL999, nL1000, nL10000, nL100000, sh33, zN_lt, zN_le, zN_eq, zN_ge0, zN_lt0, zN_nm, zN_mn, zN_mlt, zN_ltm, zN_lem, zN_mle, zN_m1, zN_m2, zN_addm, zN_ofNat, zN_beq, zN_add, zN_sub, zN_mul, zN_rem, qT_lt, qF_lt, qT_le, qF_le, qT_eq, qF_eq, ↓reduceIte, and_true, true_and, false_and, and_false, not_true_eq_false, not_false_eq_true, decide_true, decide_false, Bool.true_or, Bool.or_true, Bool.false_or, Bool.or_false, cond_true, cond_false]
  | succ dq ih =>
    intro cz h1 hs
    have h5 := ih (cz + 1) (by omega) hs
    rw [s_X8_goStreet_63]
    simp (disch := omega) only [s_X8_goStreet_65, s_X8_goStreet_67, s_X8_goStreet_70, s_X8_goStreet_71, s_X8_goStreet_73, s_X8_goStreet_75, s_X8_goStreet_76, s_X8_goStreet_78, s_X8_goStreet_79, s_X8_goStreet_80, s_X8_goStreet_81, s_X8_goStreet_84, ↓md_st, zN_neg1, nL0, nL1, nL2, nL3, nL4, nL5, nL6, nL7, nL8, nL9, nL10, nL11, nL12, nL13, nL14, nL20, nL21, nL22, nL23, nL25, nL32, nL33, nL39, nL40, nL43, nL44, nL99, nL100, nL120, nL216, nL217, nL218, nL219, nL220, nL221, nL500, nL999, nL1000, nL10000, nL100000, sh33, zN_lt, zN_le, zN_eq, zN_ge0, zN_lt0, zN_nm, zN_mn, zN_mlt, zN_ltm, zN_lem, zN_mle, zN_m1, zN_m2, zN_addm, zN_ofNat, zN_beq, zN_add, zN_sub, zN_mul, zN_rem, qT_lt, qF_lt, qT_le, qF_le, qT_eq, qF_eq, ↓reduceIte, and_true, true_and, false_and, and_false, not_true_eq_false, not_false_eq_true, decide_true, decide_false, Bool.true_or, Bool.or_true, Bool.false_or, Bool.or_false, cond_true, cond_false, qR_1]
    exact h5
theorem n_goStreet {c1 c2 c3 c5 : Nat} (hI : invT Aq) (hz : repM Aq fq) (h4s : tN Aq 0 < 4) : ∃ f1, repM (tAdd Aq c1 c2 c3 c5) f1 ∧ pwX so 165 0 [some (.ref aq), some (.int (zN c1)), some (.int (zN c2)), some (.int (zN c3)), some (.int (zN c5)), none, none] [] g (mkA aq 221 fq w) = some (.inl (some (.int (zN (tN Aq 0)))), g, (mkA aq 221 f1 w)) := by
  have h4 := hI.1
  have hcl := come_len hI
  have hsp := len_split hI (Nat.zero_le _)
  have hD : (fDn Aq 0).length = (tL Aq 1).length := by unfold fDn; rw [List.length_map]
  obtain ⟨⟨m0, m43, m216, m217, m218, m219, m220⟩, mk, ⟨m21, mst⟩, ⟨m32, mco⟩, ms⟩ := hz
  obtain ⟨u1, u2, u3, u4, u5⟩ := @ad_Nl Aq c1 c2 c3 c5 h4s
  have hlp := @n_gs63 so g aq w (tN Aq 0) (zN c1) (zN c2) (zN c3) (zN c5) (upd (upd (upd (upd (upd (upd (upd fq (44 + 43 * tN Aq 0) (zN c1)) (44 + 43 * tN Aq 0 + 1) (zN c2)) (44 + 43 * tN Aq 0 + 2) (zN c3)) (44 + 43 * tN Aq 0 + 3) (zN 0)) (44 + 43 * tN Aq 0 + 4) (zN c5)) (44 + 43 * tN Aq 0 + 5) (zN 0)) (44 + 43 * tN Aq 0 + 12) (zN 0)) 20 0 (by omega) h4s
  rw [qR_0] at hlp
  refine ⟨upd (qRg (upd (upd (upd (upd (upd (upd (upd fq (44 + 43 * tN Aq 0) (zN c1)) (44 + 43 * tN Aq 0 + 1) (zN c2)) (44 + 43 * tN Aq 0 + 2) (zN c3)) (44 + 43 * tN Aq 0 + 3) (zN 0)) (44 + 43 * tN Aq 0 + 4) (zN c5)) (44 + 43 * tN Aq 0 + 5) (zN 0)) (44 + 43 * tN Aq 0 + 12) (zN 0)) (44 + 43 * tN Aq 0 + 23) 20 zM) 43 (zN (tN Aq 0 + 1)), ?_, ?_⟩
  · have hev : ∀ jq, jq ≠ 43 → (jq < 44 + 43 * tN Aq 0 ∨ 44 + 43 * tN Aq 0 + 43 ≤ jq) → upd (qRg (upd (upd (upd (upd (upd (upd (upd fq (44 + 43 * tN Aq 0) (zN c1)) (44 + 43 * tN Aq 0 + 1) (zN c2)) (44 + 43 * tN Aq 0 + 2) (zN c3)) (44 + 43 * tN Aq 0 + 3) (zN 0)) (44 + 43 * tN Aq 0 + 4) (zN c5)) (44 + 43 * tN Aq 0 + 5) (zN 0)) (44 + 43 * tN Aq 0 + 12) (zN 0)) (44 + 43 * tN Aq 0 + 23) 20 zM) 43 (zN (tN Aq 0 + 1)) jq = fq jq := fun jq a b => by
      simp (disch := omega) only [qU_n, qR_o]
    have hN : ∀ jq, 1 ≤ jq → jq < 4 → tN (tAdd Aq c1 c2 c3 c5) jq = tN Aq jq := fun jq a b => ad_N (by omega) (by omega) (by omega) (by omega) (by omega) (by omega)
    have z1 : tT (tAdd Aq c1 c2 c3 c5) = tT Aq := rfl
    have z2 : tX (tAdd Aq c1 c2 c3 c5) = tX Aq := rfl
    unfold repM
    rw [ad_N0, hN 1 (by omega) (by omega), hN 2 (by omega) (by omega), hN 3 (by omega) (by omega), ad_L (by omega) (by omega), ad_L (by omega) (by omega), z1, z2]
    refine ⟨⟨?_, ?_, ?_, ?_, ?_, ?_, ?_⟩, fun k9 hk9 => ?_, ⟨?_, lsM_eq mst fun jz hj => hev _ (by omega) (by omega)⟩, ⟨?_, lsM_eq mco fun jz hj => hev _ (by omega) (by omega)⟩, fun s2 hs2 => ?_⟩
    · rw [hev _ (by omega) (by omega)]; exact m0
    · rw [qU_s]
    · rw [hev _ (by omega) (by omega)]; exact m216
    · rw [hev _ (by omega) (by omega)]; exact m217
    · rw [hev _ (by omega) (by omega)]; exact m218
    · rw [hev _ (by omega) (by omega)]; exact m219
    · rw [hev _ (by omega) (by omega)]; exact m220
    · rw [hev _ (by omega) (by omega), hev _ (by omega) (by omega)]; exact mk k9 hk9
    · rw [hev _ (by omega) (by omega)]; exact m21
    · rw [hev _ (by omega) (by omega)]; exact m32
    · by_cases hx : s2 = tN Aq 0
      · subst hx
        unfold repMs
        rw [u1, u2, u3, u4, u5, ad_L4, ad_L8, ad_Cs]
        refine ⟨⟨?_, ?_, ?_, ?_, ?_⟩, ⟨?_, fun iq kq hh => by cases hh⟩, ⟨?_, fun iq kq hh => by cases hh⟩, fun cq hc => ?_⟩
        · simp (disch := omega) only [qU_n, qR_o, qU_s]
        · simp (disch := omega) only [qU_n, qR_o, qU_s]
        · simp (disch := omega) only [qU_n, qR_o, qU_s]
        · simp (disch := omega) only [qU_n, qR_o, qU_s]
        · simp (disch := omega) only [qU_n, qR_o, qU_s]
        · simp (disch := omega) only [qU_n, qR_o, qU_s]; rfl
        · simp (disch := omega) only [qU_n, qR_o, qU_s]; rfl
        · simp (disch := omega) only [qU_n, qR_i]; rfl
      · obtain ⟨⟨⟨j1, j2⟩, ⟨j3, j4⟩, j5, j6, j7, j8⟩, j9, j10, j11⟩ := hI.2.2 s2 (by omega)
        have hrd2 := (rd_le hI (show s2 < tN Aq 0 by omega)).1
        obtain ⟨⟨a0, a1, a2, a3, a4⟩, ⟨b0, b1⟩, ⟨c0, c1'⟩, d⟩ := ms s2 (by omega)
        unfold repMs
        rw [ad_N (by omega) (by omega) (by omega) (by omega) (by omega) (by omega), ad_N (by omega) (by omega) (by omega) (by omega) (by omega) (by omega), ad_N (by omega) (by omega) (by omega) (by omega) (by omega) (by omega), ad_N (by omega) (by omega) (by omega) (by omega) (by omega) (by omega), ad_N (by omega) (by omega) (by omega) (by omega) (by omega) (by omega), ad_L (by omega) (by omega), ad_L (by omega) (by omega), ad_C hx]
        refine ⟨⟨?_, ?_, ?_, ?_, ?_⟩, ⟨?_, lsM_eq b1 fun jz hj => ?_⟩, ⟨?_, lsM_eq c1' fun jz hj => ?_⟩, fun cq hc => ?_⟩
        · rw [hev _ (by omega) (by omega)]; exact a0
        · rw [hev _ (by omega) (by omega)]; exact a1
        · rw [hev _ (by omega) (by omega)]; exact a2
        · rw [hev _ (by omega) (by omega)]; exact a3
        · rw [hev _ (by omega) (by omega)]; exact a4
        · rw [hev _ (by omega) (by omega)]; exact b0
        · rw [hev _ (by omega) (by omega)]
        · rw [hev _ (by omega) (by omega)]; exact c0
        · rw [hev _ (by omega) (by omega)]
        · rw [hev _ (by omega) (by omega)]; exact d cq hc
  · simp (disch := omega) only [s_X8_goStreet_0, s_X8_goStreet_1, s_X8_goStreet_3, s_X8_goStreet_4, s_X8_goStreet_7, s_X8_goStreet_9, s_X8_goStreet_10, s_X8_goStreet_12, s_X8_goStreet_13, s_X8_goStreet_14, s_X8_goStreet_15, s_X8_goStreet_16, s_X8_goStreet_17, s_X8_goStreet_19, s_X8_goStreet_20, s_X8_goStreet_21, s_X8_goStreet_22, s_X8_goStreet_23, s_X8_goStreet_24, s_X8_goStreet_26, s_X8_goStreet_27, s_X8_goStreet_28, s_X8_goStreet_29, s_X8_goStreet_30, s_X8_goStreet_31, s_X8_goStreet_33, s_X8_goStreet_34, s_X8_goStreet_35, s_X8_goStreet_36, s_X8_goStreet_37, s_X8_goStreet_38, s_X8_goStreet_40, s_X8_goStreet_41, s_X8_goStreet_42, s_X8_goStreet_44, s_X8_goStreet_45, s_X8_goStreet_46, s_X8_goStreet_48, s_X8_goStreet_49, s_X8_goStreet_50, s_X8_goStreet_51, s_X8_goStreet_52, s_X8_goStreet_53, s_X8_goStreet_55, s_X8_goStreet_57, s_X8_goStreet_58, s_X8_goStreet_59, s_X8_goStreet_60, s_X8_goStreet_61, ↓md_ld, ↓md_st, zN_neg1, nL0, nL1, nL2, nL3, nL4, nL5, nL6, nL7, nL8, nL9, nL10, nL11, nL12, nL13, nL14, nL20, nL21, nL22, nL23, nL25, nL32, nL33, nL39, nL40, nL43, nL44, nL99, nL100, nL120, nL216, nL217, nL218, nL219, nL220, nL221, nL500, nL999, nL1000, nL10000, nL100000, sh33, zN_lt, zN_le, zN_eq, zN_ge0, zN_lt0, zN_nm, zN_mn, zN_mlt, zN_ltm, zN_lem, zN_mle, zN_m1, zN_m2, zN_addm, zN_ofNat, zN_beq, zN_add, zN_sub, zN_mul, zN_rem, qT_lt, qF_lt, qT_le, qF_le, qT_eq, qF_eq, ↓reduceIte, and_true, true_and, false_and, and_false, not_true_eq_false, not_false_eq_true, decide_true, decide_false, Bool.true_or, Bool.or_true, Bool.false_or, Bool.or_false, cond_true, cond_false, m43, qAv, n_block, Nat.add_zero]
    rw [hlp]
    simp (disch := omega) only [s_X8_goStreet_87, s_X8_goStreet_88, s_X8_goStreet_90, s_X8_goStreet_91, s_X8_goStreet_92, s_X8_goStreet_93, s_X8_goStreet_94, s_X8_goStreet_95, s_X8_goStreet_96, s_X8_goStreet_98, s_X8_goStreet_99, s_X8_goStreet_100, s_X8_goStreet_101, ↓md_ld, ↓md_st, zN_neg1, nL0, nL1, nL2, nL3, nL4, nL5, nL6, nL7, nL8, nL9, nL10, nL11, nL12, nL13, nL14, nL20, nL21, nL22, nL23, nL25, nL32, nL33, nL39, nL40, nL43, nL44, nL99, nL100, nL120, nL216, nL217, nL218, nL219, nL220, nL221, nL500, nL999, nL1000, nL10000, nL100000, sh33, zN_lt, zN_le, zN_eq, zN_ge0, zN_lt0, zN_nm, zN_mn, zN_mlt, zN_ltm, zN_lem, zN_mle, zN_m1, zN_m2, zN_addm, zN_ofNat, zN_beq, zN_add, zN_sub, zN_mul, zN_rem, qT_lt, qF_lt, qT_le, qF_le, qT_eq, qF_eq, ↓reduceIte, and_true, true_and, false_and, and_false, not_true_eq_false, not_false_eq_true, decide_true, decide_false, Bool.true_or, Bool.or_true, Bool.false_or, Bool.or_false, cond_true, cond_false, m43, qU_n, qR_o, qU_s, Nat.add_sub_cancel]
theorem n_fr2 : ∀ dq cz, cz + dq = 221 → pwX so 135 2 [some (.ref aq), some (.int (zN cz))] [] g (mkA aq 221 (qRg fq 0 cz (zN 0)) w) = some (.inl none, g, (mkA aq 221 (upd (qRg fq 0 221 (zN 0)) 220 (zN 1)) w)) := by
  intro dq
  induction dq with
  | zero =>
    intro cz h1
    have h1 : cz = 221 := by omega
    subst h1
    simp (disch := omega) only [s_X8_fresh_0, s_X8_fresh_1, s_X8_fresh_2, s_X8_fresh_3, s_X8_fresh_6, s_X8_fresh_9, s_X8_fresh_10, s_X8_fresh_11, s_X8_fresh_12, s_X8_fresh_13, s_X8_fresh_16, s_X8_fresh_19, s_X8_fresh_20, s_X8_fresh_23, s_X8_fresh_24, s_X8_fresh_25, ↓md_st, zN_neg1, nL0, nL1, nL2, nL3, nL4, nL5, nL6, nL7, nL8, nL9, nL10, nL11, nL12, nL13, nL14, nL20, nL21, nL22, nL23, nL25, nL32, nL33, nL39, nL40, nL43, nL44, nL99, nL100, nL120, nL216, nL217, nL218, nL219, nL220, nL221, nL500, nL999, nL1000, nL10000, nL100000, sh33, zN_lt, zN_le, zN_eq, zN_ge0, zN_lt0, zN_nm, zN_mn, zN_mlt, zN_ltm, zN_lem, zN_mle, zN_m1, zN_m2, zN_addm, zN_ofNat, zN_beq, zN_add, zN_sub, zN_mul, zN_rem, qT_lt, qF_lt, qT_le, qF_le, qT_eq, qF_eq, ↓reduceIte, and_true, true_and, false_and, and_false, not_true_eq_false, not_false_eq_true, decide_true, decide_false, Bool.true_or, Bool.or_true, Bool.false_or, Bool.or_false, cond_true, cond_false]
  | succ dq ih =>
    intro cz h1
    have h5 := ih (cz + 1) (by omega)
    have h6 : upd (qRg fq 0 cz (zN 0)) cz (zN 0) = qRg fq 0 (cz + 1) (zN 0) := by
      have := @qR_1 fq 0 cz (zN 0)
      rw [Nat.zero_add] at this; exact this
    rw [s_X8_fresh_2]
    simp (disch := omega) only [s_X8_fresh_3, s_X8_fresh_6, s_X8_fresh_9, s_X8_fresh_10, s_X8_fresh_11, s_X8_fresh_12, s_X8_fresh_13, s_X8_fresh_16, ↓md_st, zN_neg1, nL0, nL1, nL2, nL3, nL4, nL5, nL6, nL7, nL8, nL9, nL10, nL11, nL12, nL13, nL14, nL20, nL21, nL22, nL23, nL25, nL32, nL33, nL39, nL40, nL43, nL44, nL99, nL100, nL120, nL216, nL217, nL218, nL219, nL220, nL221, nL500, nL999, nL1000, nL10000, nL100000, sh33, zN_lt, zN_le, zN_eq, zN_ge0, zN_lt0, zN_nm, zN_mn, zN_mlt, zN_ltm, zN_lem, zN_mle, zN_m1, zN_m2, zN_addm, zN_ofNat, zN_beq, zN_add, zN_sub, zN_mul, zN_rem, qT_lt, qF_lt, qT_le, qF_le, qT_eq, qF_eq, ↓reduceIte, and_true, true_and, false_and, and_false, not_true_eq_false, not_false_eq_true, decide_true, decide_false, Bool.true_or, Bool.or_true, Bool.false_or, Bool.or_false, cond_true, cond_false, h6]
    exact h5
theorem n_fresh : ∃ f1, repM tNew f1 ∧ pwX so 135 0 [some (.ref aq), none] [] g (mkA aq 221 fq w) = some (.inl none, g, (mkA aq 221 f1 w)) := by
  refine ⟨upd (qRg fq 0 221 (zN 0)) 220 (zN 1), ?_, ?_⟩
  · refine ⟨⟨?_, ?_, ?_, ?_, ?_, ?_, ?_⟩, fun k9 hk9 => absurd hk9 (Nat.not_lt_zero _), ⟨?_, fun iq kq hh => by cases hh⟩, ⟨?_, fun iq kq hh => by cases hh⟩, fun s2 hs2 => absurd hs2 (Nat.not_lt_zero _)⟩
    · rw [qU_n (by decide), qR_i (by decide) (by decide)]; rfl
    · rw [qU_n (by decide), qR_i (by decide) (by decide)]; rfl
    · rw [qU_n (by decide), qR_i (by decide) (by decide)]; rfl
    · rw [qU_n (by decide), qR_i (by decide) (by decide)]; rfl
    · rw [qU_n (by decide), qR_i (by decide) (by decide)]; rfl
    · rw [qU_n (by decide), qR_i (by decide) (by decide)]; decide
    · rw [qU_s]; decide
    · rw [qU_n (by decide), qR_i (by decide) (by decide)]; rfl
    · rw [qU_n (by decide), qR_i (by decide) (by decide)]; rfl
  · have h := @n_fr2 so g aq w fq 221 0 (by omega)
    rw [qR_0] at h
    simp (disch := omega) only [s_X8_fresh_0, s_X8_fresh_1, zN_neg1, nL0, nL1, nL2, nL3, nL4, nL5, nL6, nL7, nL8, nL9, nL10, nL11, nL12, nL13, nL14, nL20, nL21, nL22, nL23, nL25, nL32, nL33, nL39, nL40, nL43, nL44, nL99, nL100, nL120, nL216, nL217, nL218, nL219, nL220, nL221, nL500, nL999, nL1000, nL10000, nL100000]
    exact h
end QA
