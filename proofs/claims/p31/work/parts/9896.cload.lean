/-! the pure part: the class loads: the loop -/
def ldG (fz : Nat → (Nat → Int32) → TA → Int32 × TA) : List Nat → RS → Nat → TA → Nat × TA
  | [], _, kq, Aq => (kq, Aq)
  | cq :: cs, sq, kq, Aq =>
    if (pSt sq cq).1 = true ∧ (pSt sq cq).2.2.2.2.1 = true then ldG fz cs (pSt sq cq).2 (if (fz (pSt sq cq).2.1 (pSt sq cq).2.2.2.2.2 Aq).1 = zN 0 then kq + 1 else kq) (fz (pSt sq cq).2.1 (pSt sq cq).2.2.2.2.2 Aq).2
    else ldG fz cs (pSt sq cq).2 kq Aq
theorem ldG_0 {fz : Nat → (Nat → Int32) → TA → Int32 × TA} {sq : RS} {kq : Nat} {Aq : TA} : ldG fz [] sq kq Aq = (kq, Aq) := rfl
theorem ldG_s {fz : Nat → (Nat → Int32) → TA → Int32 × TA} {sq : RS} {kq cq : Nat} {cs : List Nat} {Aq : TA} : ldG fz (cq :: cs) sq kq Aq = if (pSt sq cq).1 = true ∧ (pSt sq cq).2.2.2.2.1 = true then ldG fz cs (pSt sq cq).2 (if (fz (pSt sq cq).2.1 (pSt sq cq).2.2.2.2.2 Aq).1 = zN 0 then kq + 1 else kq) (fz (pSt sq cq).2.1 (pSt sq cq).2.2.2.2.2 Aq).2 else ldG fz cs (pSt sq cq).2 kq Aq := rfl
theorem carry_01 {cq : Nat} {fn : Nat → Int32} {Aq : TA} : (carry cq fn Aq).1 = zN 1 ∨ (carry cq fn Aq).1 = zN 0 := by
  unfold carry
  split
  · exact qI_01
  · split
    · exact qI_01
    · split
      · exact qI_01
      · split
        · exact qI_01
        · split
          · exact qI_01
          · split
            · exact qI_01
            · exact qI_01
theorem pSt_lt {sq : RS} {cq : Nat} (hI : inRS sq) (h1 : (pSt sq cq).1 = true) (h2 : (pSt sq cq).2.2.2.2.1 = true) : ltI (pSt sq cq).2.1 < 7 := by
  unfold pSt at h1 h2 ⊢
  split
  · next h3 =>
    rw [if_pos h3] at h1 h2
    split
    · next h4 => rw [if_pos h4] at h1; exact absurd h1 (fun hh => Bool.noConfusion hh)
    · next h4 => rw [if_neg h4] at h2; exact absurd h2 (fun hh => Bool.noConfusion hh)
  · next h3 =>
    rcases hI with hI | ⟨i1, i2, i3, i4⟩
    · exact absurd hI h3
    · split
      · exact i2
      · split
        · exact i2
        · exact i2
section QA
variable {so : Nat → Nat} {g : pwG} {xx : Nat} {w w1 : pwW} {tx : List Nat}
theorem m_load62 {Hq : List TA × (Nat → Option TA)} : ∀ (cs : List Nat) (iq kq : Nat) (sq : RS) (Aq : TA) (w1 : pwW), tx.drop iq = cs → iq ≤ tx.length → kq ≤ iq → inRS sq → soW so xx w1 → clsW xx (tx, Aq, Hq) w1 → w1 = mkR (xx + 1) (zN tx.length) sq w1 → ∃ w2, clsW xx (tx, (ldG carry cs sq kq Aq).2, Hq) w2 ∧ frm xx w1 w2 ∧ pwX so 99 62 [some (.ref xx), some (.int (zN kq)), some (.int (zN iq))] [] g w1 = some (.inl (some (.int (zN (ldG carry cs sq kq Aq).1))), g, w2) := by
  intro cs
  induction cs with
  | nil =>
    intro iq kq sq Aq w1 h1 h2 hk hI hs hC hw
    have h3 := congrArg List.length h1
    rw [List.length_drop] at h3
    have h3 : tx.length - iq = 0 := h3
    have h4 : iq = tx.length := by omega
    subst h4
    have hg := @hx_g xx _ _ hC
    have hC2 := hC
    obtain ⟨c1, c2, c3, c4, ⟨t1, t2, cm, nx, tn, wh, fs, fn, t3, t4, t5, t6, t7⟩, -⟩ := hC2
    have t1 : tx.length ≤ 120 := t1
    have q1 : pwGet w1 (xx + 1) 5 0 = some (.int (zN tx.length)) := cg t3
    refine ⟨w1, by rw [ldG_0]; exact hC, frm_s, ?_⟩
    rw [ldG_0]
    simp (disch := omega) only [s_X7_load_0, s_X7_load_1, s_X7_load_4, s_X7_load_7, s_X7_load_8, s_X7_load_11, s_X7_load_21, s_X7_load_22, s_X7_load_25, s_X7_load_28, s_X7_load_29, s_X7_load_32, s_X7_load_35, s_X7_load_36, s_X7_load_39, s_X7_load_40, s_X7_load_43, s_X7_load_44, s_X7_load_47, s_X7_load_48, s_X7_load_51, s_X7_load_52, s_X7_load_53, s_X7_load_54, s_X7_load_57, s_X7_load_60, s_X7_load_61, s_X7_load_62, s_X7_load_63, s_X7_load_64, s_X7_load_67, s_X7_load_70, s_X7_load_73, s_X7_load_74, s_X7_load_77, s_X7_load_78, s_X7_load_81, s_X7_load_84, s_X7_load_85, s_X7_load_88, s_X7_load_89, s_X7_load_92, s_X7_load_95, s_X7_load_98, s_X7_load_101, s_X7_load_104, s_X7_load_107, s_X7_load_108, zN_neg1, nL0, nL1, nL2, nL3, nL4, nL5, nL6, nL7, nL8, nL9, nL10, nL11, nL12, nL13, nL14, nL20, nL21, nL22, nL23, nL25, nL32, nL33, nL39, nL40, nL43, nL44, nL99, nL100, nL120, nL216, nL217, nL218, nL219, nL220, nL221, nL500, nL999, nL1000, nL10000, nL100000, sh33, zN_lt, zN_le, zN_eq, zN_ge0, zN_lt0, zN_nm, zN_mn, zN_mlt, zN_ltm, zN_lem, zN_mle, zN_m1, zN_m2, zN_addm, zN_ofNat, zN_beq, zN_add, zN_sub, zN_mul, zN_rem, qT_lt, qF_lt, qT_le, qF_le, qT_eq, qF_eq, ↓reduceIte, and_true, true_and, false_and, and_false, not_true_eq_false, not_false_eq_true, decide_true, decide_false, Bool.true_or, Bool.or_true, Bool.false_or, Bool.or_false, cond_true, cond_false, qAv, cond_true, Option.bind_some, List.getElem?_cons_succ, List.getElem?_cons_zero, hg, q1]
  | cons cq cs ih =>
    intro iq kq sq Aq w1 h1 h2 hk hI hs hC hw
    have h3 := congrArg List.length h1
    rw [List.length_drop, List.length_cons] at h3
    have h4 : tx[iq]? = some cq := by
      have := congrArg (fun ls : List Nat => ls[0]?) h1
      rw [List.getElem?_drop, Nat.add_zero] at this
      exact this
    have h5 : tx.drop (iq + 1) = cs := by rw [← List.tail_drop, h1]; rfl
    have hg := @hx_g xx _ _ hC
    have hC2 := hC
    obtain ⟨c1, c2, c3, c4, ⟨t1, t2, cm, nx, tn, wh, fs, fn, t3, t4, t5, t6, t7⟩, -⟩ := hC2
    have t1 : tx.length ≤ 120 := t1
    have h6 : cq ≤ 255 := t2 cq (List.mem_of_getElem? h4)
    have q1 : pwGet w1 (xx + 1) 5 0 = some (.int (zN tx.length)) := cg t3
    have i1 : pwIsC w1 (xx + 1) 5 = true := ci_ t3
    have b1 := @m_ends so g (xx + 1) cq w1 (zN tx.length) fs sq tx iq (soW_le hs (by omega)) t5 t6 t1 h6 h4 hI
    rw [← hw] at b1
    obtain ⟨w2, e2⟩ : ∃ w2, w2 = mkR (xx + 1) (zN tx.length) (pSt sq cq).2 w1 := ⟨_, rfl⟩
    rw [← e2] at b1
    have hC2 : clsW xx (tx, Aq, Hq) w2 := by rw [e2]; exact cls_mr (Fq := (tx, Aq, Hq)) hC
    have hw2 : w2 = mkR (xx + 1) (zN tx.length) (pSt sq cq).2 w2 := by rw [e2, mr_idem]
    have hf2 : frm xx w1 w2 := fun aq h => by rw [e2]; exact mx_o (by omega) (by omega)
    have hs2 := soW_fr hs hf2
    have hJ := inRS_step hI h6
    rw [ldG_s]
    by_cases h7 : (pSt sq cq).1 = true ∧ (pSt sq cq).2.2.2.2.1 = true
    · rw [if_pos h7] at b1
      rw [if_pos h7]
      have hg2 := @hx_g xx _ _ hC2
      have hC3 := hC2
      obtain ⟨-, ⟨hIA, xb, sb, Rb, hT, hb⟩, -⟩ := hC3
      have q2 : pwGet w2 (xx + 1) 5 2 = some (.ref (xx + 1 + 2)) := by rw [hw2]; exact mr_g
      have q3 : pwGet w2 (xx + 1) 5 3 = some (.int (zN (pSt sq cq).2.1)) := by rw [hw2]; exact mr_g
      have q4 : w2 (xx + 1 + 2) = .inl (0, 4, .inl (pSt sq cq).2.2.2.2.2) := by rw [hw2]; exact mx_2
      have i2 : pwIsC w2 (xx + 1) 5 = true := by rw [hw2]; exact mr_i
      obtain ⟨x3, s3, R3, d1, d2⟩ := @m_carry so g (xx + 1) (xx + 4) (xx + 1 + 2) (pSt sq cq).2.1 w2 (pSt sq cq).2.2.2.2.2 Aq xb sb Rb (lt7 (pSt_lt hI h7.1 h7.2)) hIA hT (by rw [← hb]; exact q2) (by rw [← hb]; exact q3) (by rw [← hb]; exact q4)
      rw [← hb] at d2
      have hC4 := cls_town hC2 (inv_carry (cq := (pSt sq cq).2.1) (fn := (pSt sq cq).2.2.2.2.2) hIA) d1
      have hf4 : frm xx w2 (mkT (xx + 4) x3 s3 R3 w2) := frm_T (by omega) (by omega)
      have hw4 := mr_congr (tq := xx + 1) (lq := zN tx.length) (sq := (pSt sq cq).2) (w := w2) (w1 := mkT (xx + 4) x3 s3 R3 w2) (mkT_o (by omega)) (mkT_o (by omega)) hw2
      rcases @carry_01 (pSt sq cq).2.1 (pSt sq cq).2.2.2.2.2 Aq with h8 | h8
      · rw [if_neg (by rw [h8]; decide)]
        rw [h8] at d2
        obtain ⟨w5, f1, f2, f3⟩ := ih (iq + 1) kq _ _ _ h5 (by omega) (by omega) hJ (soW_fr hs2 hf4) hC4 hw4
        refine ⟨w5, f1, frm_t hf2 (frm_t hf4 f2), ?_⟩
        rw [← f3]
        conv => lhs; rw [s_X7_load_62]
        simp (disch := omega) only [s_X7_load_0, s_X7_load_1, s_X7_load_4, s_X7_load_7, s_X7_load_8, s_X7_load_11, s_X7_load_21, s_X7_load_22, s_X7_load_25, s_X7_load_28, s_X7_load_29, s_X7_load_32, s_X7_load_35, s_X7_load_36, s_X7_load_39, s_X7_load_40, s_X7_load_43, s_X7_load_44, s_X7_load_47, s_X7_load_48, s_X7_load_51, s_X7_load_52, s_X7_load_53, s_X7_load_54, s_X7_load_57, s_X7_load_60, s_X7_load_61, s_X7_load_63, s_X7_load_64, s_X7_load_67, s_X7_load_70, s_X7_load_73, s_X7_load_74, s_X7_load_77, s_X7_load_78, s_X7_load_81, s_X7_load_84, s_X7_load_85, s_X7_load_88, s_X7_load_89, s_X7_load_92, s_X7_load_95, s_X7_load_98, s_X7_load_101, s_X7_load_104, s_X7_load_107, s_X7_load_108, zN_neg1, nL0, nL1, nL2, nL3, nL4, nL5, nL6, nL7, nL8, nL9, nL10, nL11, nL12, nL13, nL14, nL20, nL21, nL22, nL23, nL25, nL32, nL33, nL39, nL40, nL43, nL44, nL99, nL100, nL120, nL216, nL217, nL218, nL219, nL220, nL221, nL500, nL999, nL1000, nL10000, nL100000, sh33, zN_lt, zN_le, zN_eq, zN_ge0, zN_lt0, zN_nm, zN_mn, zN_mlt, zN_ltm, zN_lem, zN_mle, zN_m1, zN_m2, zN_addm, zN_ofNat, zN_beq, zN_add, zN_sub, zN_mul, zN_rem, qT_lt, qF_lt, qT_le, qF_le, qT_eq, qF_eq, ↓reduceIte, and_true, true_and, false_and, and_false, not_true_eq_false, not_false_eq_true, decide_true, decide_false, Bool.true_or, Bool.or_true, Bool.false_or, Bool.or_false, cond_true, cond_false, qAv, cond_true, Option.bind_some, List.getElem?_cons_succ, List.getElem?_cons_zero, hg, q1, i1, b1, hg2, i2, d2]
      · rw [if_pos h8]
        rw [h8] at d2
        obtain ⟨w5, f1, f2, f3⟩ := ih (iq + 1) (kq + 1) _ _ _ h5 (by omega) (by omega) hJ (soW_fr hs2 hf4) hC4 hw4
        refine ⟨w5, f1, frm_t hf2 (frm_t hf4 f2), ?_⟩
        rw [← f3]
        conv => lhs; rw [s_X7_load_62]
        simp (disch := omega) only [s_X7_load_0, s_X7_load_1, s_X7_load_4, s_X7_load_7, s_X7_load_8, s_X7_load_11, s_X7_load_21, s_X7_load_22, s_X7_load_25, s_X7_load_28, s_X7_load_29, s_X7_load_32, s_X7_load_35, s_X7_load_36, s_X7_load_39, s_X7_load_40, s_X7_load_43, s_X7_load_44, s_X7_load_47, s_X7_load_48, s_X7_load_51, s_X7_load_52, s_X7_load_53, s_X7_load_54, s_X7_load_57, s_X7_load_60, s_X7_load_61, s_X7_load_63, s_X7_load_64, s_X7_load_67, s_X7_load_70, s_X7_load_73, s_X7_load_74, s_X7_load_77, s_X7_load_78, s_X7_load_81, s_X7_load_84, s_X7_load_85, s_X7_load_88, s_X7_load_89, s_X7_load_92, s_X7_load_95, s_X7_load_98, s_X7_load_101, s_X7_load_104, s_X7_load_107, s_X7_load_108, zN_neg1, nL0, nL1, nL2, nL3, nL4, nL5, nL6, nL7, nL8, nL9, nL10, nL11, nL12, nL13, nL14, nL20, nL21, nL22, nL23, nL25, nL32, nL33, nL39, nL40, nL43, nL44, nL99, nL100, nL120, nL216, nL217, nL218, nL219, nL220, nL221, nL500, nL999, nL1000, nL10000, nL100000, sh33, zN_lt, zN_le, zN_eq, zN_ge0, zN_lt0, zN_nm, zN_mn, zN_mlt, zN_ltm, zN_lem, zN_mle, zN_m1, zN_m2, zN_addm, zN_ofNat, zN_beq, zN_add, zN_sub, zN_mul, zN_rem, qT_lt, qF_lt, qT_le, qF_le, qT_eq, qF_eq, ↓reduceIte, and_true, true_and, false_and, and_false, not_true_eq_false, not_false_eq_true, decide_true, decide_false, Bool.true_or, Bool.or_true, Bool.false_or, Bool.or_false, cond_true, cond_false, qAv, cond_true, Option.bind_some, List.getElem?_cons_succ, List.getElem?_cons_zero, hg, q1, i1, b1, hg2, i2, d2]
    · rw [if_neg h7] at b1
      rw [if_neg h7]
      obtain ⟨w5, f1, f2, f3⟩ := ih (iq + 1) kq _ _ _ h5 (by omega) (by omega) hJ hs2 hC2 hw2
      refine ⟨w5, f1, frm_t hf2 f2, ?_⟩
      rw [← f3]
      conv => lhs; rw [s_X7_load_62]
      simp (disch := omega) only [s_X7_load_0, s_X7_load_1, s_X7_load_4, s_X7_load_7, s_X7_load_8, s_X7_load_11, s_X7_load_21, s_X7_load_22, s_X7_load_25, s_X7_load_28, s_X7_load_29, s_X7_load_32, s_X7_load_35, s_X7_load_36, s_X7_load_39, s_X7_load_40, s_X7_load_43, s_X7_load_44, s_X7_load_47, s_X7_load_48, s_X7_load_51, s_X7_load_52, s_X7_load_53, s_X7_load_54, s_X7_load_57, s_X7_load_60, s_X7_load_61, s_X7_load_63, s_X7_load_64, s_X7_load_67, s_X7_load_70, s_X7_load_73, s_X7_load_74, s_X7_load_77, s_X7_load_78, s_X7_load_81, s_X7_load_84, s_X7_load_85, s_X7_load_88, s_X7_load_89, s_X7_load_92, s_X7_load_95, s_X7_load_98, s_X7_load_101, s_X7_load_104, s_X7_load_107, s_X7_load_108, zN_neg1, nL0, nL1, nL2, nL3, nL4, nL5, nL6, nL7, nL8, nL9, nL10, nL11, nL12, nL13, nL14, nL20, nL21, nL22, nL23, nL25, nL32, nL33, nL39, nL40, nL43, nL44, nL99, nL100, nL120, nL216, nL217, nL218, nL219, nL220, nL221, nL500, nL999, nL1000, nL10000, nL100000, sh33, zN_lt, zN_le, zN_eq, zN_ge0, zN_lt0, zN_nm, zN_mn, zN_mlt, zN_ltm, zN_lem, zN_mle, zN_m1, zN_m2, zN_addm, zN_ofNat, zN_beq, zN_add, zN_sub, zN_mul, zN_rem, qT_lt, qF_lt, qT_le, qF_le, qT_eq, qF_eq, ↓reduceIte, and_true, true_and, false_and, and_false, not_true_eq_false, not_false_eq_true, decide_true, decide_false, Bool.true_or, Bool.or_true, Bool.false_or, Bool.or_false, cond_true, cond_false, qAv, cond_true, Option.bind_some, List.getElem?_cons_succ, List.getElem?_cons_zero, hg, q1, i1, b1]
end QA
