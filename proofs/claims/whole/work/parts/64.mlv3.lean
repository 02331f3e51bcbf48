/-! the pure part: the model's row once one has left -/
section QA
variable {aq nq sq Sq : Nat} {fq : Nat → Int32} {Aq : TA} {xq : Int64}
theorem mLv_5 {jq : Nat} (hs : sq < 4) (h1 : jq < 44 + 43 * sq ∨ 44 + 43 * sq + 23 ≤ jq) (h2 : tI Aq sq < (tL Aq (4 + sq)).length) (h3 : (tL Aq (4 + sq)).length ≤ 6) (h4 : (tL Aq (8 + sq)).length ≤ 9) (h5 : jq ≠ 219) (h6 : jq ≠ 220) (h7 : jq ≠ 32) (h8 : jq ≠ 33 + (tL Aq 0).length) (h9 : jq ≠ 11 + tWho Aq sq) (h0 : jq ≠ 44 + 43 * (sq + 1) + 23) : mLv Aq sq fq jq = fq jq := by
  unfold mLv
  split <;> simp (disch := omega) only [qU_n, qD_o, chF_o]
theorem m_mLv (hI : invT Aq) (hM : repM Aq fq) (hs : sq < tN Aq 0) (hg : goL Aq sq) : repM (tLv Aq sq) (mLv Aq sq fq) := by
  have h4 := hI.1
  obtain ⟨⟨m0, m43, m216, m217, m218, m219, m220⟩, mk, ⟨m21, mst⟩, ⟨m32, mco⟩, ms⟩ := hM
  obtain ⟨⟨⟨i1, i2⟩, ⟨i3, i4⟩, i5, i6, i7, i8⟩, i9, i10, i11⟩ := hI.2.2 sq hs
  obtain ⟨⟨a0, a1, a2, a3, a4⟩, ⟨b0, b1⟩, ⟨c0, c1⟩, d⟩ := ms sq hs
  have hn := hg.1
  have hrd := (rd_le hI hs).1
  have hpos := List.length_pos_iff.mpr hn
  obtain ⟨hi, hk⟩ := tWho_get hn
  have hwl := tWho_lt hI hs hn
  have hcl := come_len hI
  have hst := len_split hI (Nat.zero_le _)
  have hst2 : (fDn Aq 0).length = (tL Aq 1).length := by unfold fDn; rw [List.length_map]
  obtain ⟨u1, u2, u3⟩ := @tLv_num Aq sq
  obtain ⟨x1, x2⟩ := chF_x (rl := tN Aq 2) m219 m220
  have hcm : sq + 1 = tN Aq 0 → (tL Aq 0).length + 1 ≤ 10 := fun hl => by
    have h9 := len_street hI hs
    rw [hl, fP_S, List.length_map] at h9
    omega
  unfold repM
  rw [tLv_N, u1, u2, u3]
  refine ⟨⟨?_, ?_, ?_, ?_, ?_, ?_, ?_⟩, fun kq hkq => ?_, ⟨?_, ?_⟩, ⟨?_, ?_⟩, fun s2 hs2 => ?_⟩
  · rw [← m0]; unfold mLv; split <;> simp (disch := omega) only [qU_n, qD_o, chF_o]
  · rw [← m43]; unfold mLv; split
    · next hl => have := hcm hl; simp (disch := omega) only [qU_n, qD_o, chF_o]
    · simp (disch := omega) only [qU_n, qD_o, chF_o]
  · rw [← m216]; unfold mLv; split
    · next hl => have := hcm hl; simp (disch := omega) only [qU_n, qD_o, chF_o]
    · simp (disch := omega) only [qU_n, qD_o, chF_o]
  · rw [← m217]; unfold mLv; split
    · next hl => have := hcm hl; simp (disch := omega) only [qU_n, qD_o, chF_o]
    · simp (disch := omega) only [qU_n, qD_o, chF_o]
  · rw [← m218]; unfold mLv; split
    · next hl => have := hcm hl; simp (disch := omega) only [qU_n, qD_o, chF_o]
    · simp (disch := omega) only [qU_n, qD_o, chF_o]
  · rw [← x1]; unfold mLv; split
    · next hl => have := hcm hl; simp (disch := omega) only [qU_n, qD_o]
    · simp (disch := omega) only [qU_n, qD_o]
  · rw [← x2]; unfold mLv; split
    · next hl => have := hcm hl; simp (disch := omega) only [qU_n, qD_o]
    · simp (disch := omega) only [qU_n, qD_o]
  · obtain ⟨e1, e2⟩ := mk kq hkq
    rw [← e1, tLv_K]
    constructor
    · unfold mLv; split
      · next hl => have := hcm hl; simp (disch := omega) only [qU_n, qD_o, chF_o]
      · simp (disch := omega) only [qU_n, qD_o, chF_o]
    · unfold mLv; split
      · next hl =>
        have := hcm hl
        rw [decide_eq_true hl, cond_true]
        by_cases hx : kq = tWho Aq sq
        · subst hx; rw [qU_s, qU_s]
        · rw [qU_n hx, ← e2]; simp (disch := omega) only [qU_n, qD_o, chF_o]
      · next hl => rw [decide_eq_false hl, cond_false, ← e2]; simp (disch := omega) only [qU_n, qD_o, chF_o]
  · rw [tLv_L (by omega) (by omega) (by omega), ← m21]; unfold mLv; split <;> simp (disch := omega) only [qU_n, qD_o, chF_o]
  · rw [tLv_L (by omega) (by omega) (by omega)]
    refine lsM_eq mst fun jq hj => ?_
    unfold mLv; split <;> simp (disch := omega) only [qU_n, qD_o, chF_o]
  · by_cases hl : sq + 1 = tN Aq 0
    · rw [tLv_0 hl, List.length_append, List.length_singleton]; unfold mLv; rw [if_pos hl]
      simp (disch := omega) only [qU_n, qU_s]
    · rw [tLv_0n (by omega) hl, ← m32]; unfold mLv; rw [if_neg hl]; simp (disch := omega) only [qU_n, qD_o, chF_o]
  · by_cases hl : sq + 1 = tN Aq 0
    · have := hcm hl
      rw [tLv_0 hl]
      refine lsM_snoc mco (fun jq hj => ?_) ?_
      · unfold mLv; rw [if_pos hl]; simp (disch := omega) only [qU_n, qD_o, chF_o]
      · unfold mLv; rw [if_pos hl]; simp (disch := omega) only [qU_n, qU_s]
    · rw [tLv_0n (by omega) hl]
      refine lsM_eq mco fun jq hj => ?_
      unfold mLv; rw [if_neg hl]; simp (disch := omega) only [qU_n, qD_o, chF_o]
  · obtain ⟨⟨⟨j1, j2⟩, ⟨j3, j4⟩, j5, j6, j7, j8⟩, j9, j10, j11⟩ := hI.2.2 s2 hs2
    have hrd2 := (rd_le hI hs2).1
    by_cases hx : s2 = sq
    · subst hx
      unfold repMs
      rw [tLv_N, tLv_cr (by omega), tLv_rd, tLv_C (by omega), List.length_eraseIdx_of_lt hi, List.length_append, List.length_singleton]
      have hz : ∀ jq, jq < 23 → jq ≠ 5 → (jq < 6 ∨ 12 ≤ jq) → jq ≠ 12 → jq ≠ 13 + (tL Aq (8 + s2)).length → mLv Aq s2 fq (44 + 43 * s2 + jq) = fq (44 + 43 * s2 + jq) := by
        intro jq z1 z2 z3 z4 z5
        unfold mLv; split
        · next hl => have := hcm hl; simp (disch := omega) only [qU_n, qD_o, chF_o]
        · simp (disch := omega) only [qU_n, qD_o, chF_o]
      refine ⟨⟨?_, ?_, ?_, ?_, ?_⟩, ⟨?_, ?_⟩, ⟨?_, ?_⟩, ?_⟩
      · have := hz 0 (by omega) (by omega) (by omega) (by omega) (by omega); rw [Nat.add_zero] at this; rw [this]; exact a0
      · rw [hz 1 (by omega) (by omega) (by omega) (by omega) (by omega)]; exact a1
      · rw [hz 2 (by omega) (by omega) (by omega) (by omega) (by omega)]; exact a2
      · rw [hz 3 (by omega) (by omega) (by omega) (by omega) (by omega)]; exact a3
      · rw [hz 4 (by omega) (by omega) (by omega) (by omega) (by omega)]; exact a4
      · unfold mLv; split
        · next hl => have := hcm hl; simp (disch := omega) only [qU_n, qD_o, qU_s]
        · simp (disch := omega) only [qU_n, qD_o, qU_s]
      · refine lsM_erase b1 (fun jq hj => ?_) (fun jq hj hj2 => ?_)
        · unfold mLv; split
          · next hl => have := hcm hl; simp (disch := omega) only [qU_n, qD_o, chF_o]
          · simp (disch := omega) only [qU_n, qD_o, chF_o]
        · unfold mLv; split
          · next hl => have := hcm hl; simp (disch := omega) only [qU_n, qD_i, chF_o]
          · simp (disch := omega) only [qU_n, qD_i, chF_o]
      · unfold mLv; split
        · next hl => have := hcm hl; simp (disch := omega) only [qU_n, qU_s]
        · simp (disch := omega) only [qU_n, qU_s]
      · refine lsM_snoc c1 (fun jq hj => ?_) ?_
        · rw [Nat.add_assoc (44 + 43 * s2)]
          exact hz (13 + jq) (by omega) (by omega) (by omega) (by omega) (by omega)
        · unfold mLv; split
          · next hl => have := hcm hl; simp (disch := omega) only [qU_n, qU_s]
          · simp (disch := omega) only [qU_n, qU_s]
      · intro cq hcq
        rw [← d cq hcq]
        unfold mLv; split
        · next hl => have := hcm hl; simp (disch := omega) only [qU_n, qD_o, chF_o]
        · simp (disch := omega) only [qU_n, qD_o, chF_o]
    · refine repMs_eq (ms s2 hs2) tLv_N (tLv_L (by omega) (by omega) (by omega)) (tLv_L (by omega) (by omega) (by omega)) (by omega) (by omega) (fun jq hj => ?_) (fun cq hcq => ?_)
      · unfold mLv; split
        · next hl => have := hcm hl; simp (disch := omega) only [qU_n, qD_o, chF_o]
        · simp (disch := omega) only [qU_n, qD_o, chF_o]
      · have d2 := (ms s2 hs2).2.2.2 cq hcq
        by_cases hy : s2 = sq + 1
        · subst hy
          have hl : ¬ sq + 1 = tN Aq 0 := by omega
          have hf := hg.2.2.resolve_left hl
          rw [tLv_C1 hl, cO_app]
          unfold mLv; rw [if_neg hl]
          by_cases hc : cq = 0
          · subst hc
            rw [cO_none.mpr (fun eq he => by have := hf eq he; omega), Nat.add_zero, qU_s]; rfl
          · rw [qU_n (by omega)]
            simp (disch := omega) only [qU_n, qD_o, chF_o]
            rw [d2]
            cases h9 : cO (tC Aq (sq + 1)) cq with
            | some k9 => rfl
            | none =>
              show oV none = oV (if 0 = cq then some _ else none)
              rw [if_neg (by omega)]
        · rw [tLv_C hy, ← d2]
          unfold mLv; split
          · next hl => have := hcm hl; simp (disch := omega) only [qU_n, qD_o, chF_o]
          · simp (disch := omega) only [qU_n, qD_o, chF_o]
end QA
