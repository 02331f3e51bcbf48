/-! the pure part: the class loads -/
def fLoad (Fq : FS) : (Nat × Int32) × FS := if fErr Fq.1 = zM then ((0, zN (ldG carry Fq.1.tail sR0 0 tNew).1), (Fq.1, (ldG carry Fq.1.tail sR0 0 tNew).2, [], fun _ => none)) else ((1, 0), Fq)
theorem carry_n {cq : Nat} {f8 f9 : Nat → Int32} {Aq : TA} (hc : ltI cq < 7) (h : ∀ jq, 3 * jq < rwN (ltI cq) → f8 jq = f9 jq) : carry cq f8 Aq = carry cq f9 Aq := by
  rcases lt7 hc with rfl | rfl | rfl | rfl | rfl | rfl | rfl
  · have h0 := h 0 (by decide)
    unfold carry; simp only [if_true, h0]
  · have h0 := h 0 (by decide)
    have h1 := h 1 (by decide)
    have h2 := h 2 (by decide)
    have h3 := h 3 (by decide)
    unfold carry; rw [if_neg (by decide), if_pos rfl, if_neg (by decide), if_pos rfl, h0, h1, h2, h3]
  · have h0 := h 0 (by decide)
    have h1 := h 1 (by decide)
    unfold carry; rw [if_neg (by decide), if_neg (by decide), if_pos rfl, if_neg (by decide), if_neg (by decide), if_pos rfl, h0, h1]
  · have h0 := h 0 (by decide)
    unfold carry; rw [if_neg (by decide), if_neg (by decide), if_neg (by decide), if_pos rfl, if_neg (by decide), if_neg (by decide), if_neg (by decide), if_pos rfl, h0]
  · have h0 := h 0 (by decide)
    unfold carry; rw [if_neg (by decide), if_neg (by decide), if_neg (by decide), if_neg (by decide), if_pos rfl, if_neg (by decide), if_neg (by decide), if_neg (by decide), if_neg (by decide), if_pos rfl, h0]
  · have h0 := h 0 (by decide)
    have h1 := h 1 (by decide)
    unfold carry; rw [if_neg (by decide), if_neg (by decide), if_neg (by decide), if_neg (by decide), if_neg (by decide), if_pos rfl, if_neg (by decide), if_neg (by decide), if_neg (by decide), if_neg (by decide), if_neg (by decide), if_pos rfl, h0, h1]
  · have h0 := h 0 (by decide)
    unfold carry; rw [if_neg (by decide), if_neg (by decide), if_neg (by decide), if_neg (by decide), if_neg (by decide), if_neg (by decide), if_neg (by decide), if_neg (by decide), if_neg (by decide), if_neg (by decide), if_neg (by decide), if_neg (by decide), h0]
/-- two reading states that differ in what is not read any more -/
def simR (s8 s9 : RS) : Prop := s8.2.2.2.1 = s9.2.2.2.1 ∧ (s8.2.2.2.1 = true ∨ (s8.1 = s9.1 ∧ s8.2.1 = s9.2.1 ∧ s8.2.2.1 = s9.2.2.1 ∧ ∀ jq, jq < s8.2.1 → s8.2.2.2.2 jq = s9.2.2.2.2 jq))
theorem simR_s {s8 s9 : RS} {cq : Nat} (h : simR s8 s9) : (pSt s8 cq).1 = (pSt s9 cq).1 ∧ simR (pSt s8 cq).2 (pSt s9 cq).2 ∧ ((pSt s8 cq).1 = true → (pSt s8 cq).2.2.2.2.1 = true → (pSt s8 cq).2.1 = (pSt s9 cq).2.1 ∧ ∀ jq, 3 * jq < rwN (ltI (pSt s8 cq).2.1) → (pSt s8 cq).2.2.2.2.2 jq = (pSt s9 cq).2.2.2.2.2 jq) := by
  obtain ⟨c8, n8, t8, w8, f8⟩ := s8
  obtain ⟨c9, n9, t9, w9, f9⟩ := s9
  obtain ⟨h1, h2⟩ := h
  dsimp only at h1 h2
  subst h1
  unfold pSt
  dsimp only
  by_cases h3 : w8 = true
  · rw [if_pos h3, if_pos h3]
    subst h3
    by_cases h4 : ltI cq = 7
    · rw [if_pos h4, if_pos h4]
      exact ⟨rfl, ⟨rfl, Or.inl rfl⟩, fun h5 => Bool.noConfusion h5⟩
    · rw [if_neg h4, if_neg h4]
      exact ⟨rfl, ⟨rfl, Or.inr ⟨rfl, rfl, rfl, fun jq hj => absurd hj (Nat.not_lt_zero _)⟩⟩, fun _ h5 => Bool.noConfusion h5⟩
  · rw [if_neg h3, if_neg h3]
    rcases h2 with h2 | ⟨rfl, rfl, rfl, h2⟩
    · exact absurd h2 h3
    · by_cases h5 : cq < bsN c8 ∨ bsN c8 + hiN c8 < cq
      · rw [if_pos h5, if_pos h5]
        exact ⟨rfl, ⟨rfl, Or.inr ⟨rfl, rfl, rfl, h2⟩⟩, fun h6 => Bool.noConfusion h6⟩
      · rw [if_neg h5, if_neg h5]
        by_cases h6 : rwV (ltI c8) (3 * n8) = 2 ∧ t8 = none
        · rw [if_pos h6, if_pos h6]
          exact ⟨rfl, ⟨rfl, Or.inr ⟨rfl, rfl, rfl, h2⟩⟩, fun _ h7 => Bool.noConfusion h7⟩
        · rw [if_neg h6, if_neg h6]
          have h7 : ∀ jq, jq < n8 + 1 → upd f8 n8 (zN (vlN t8 (cq - bsN c8))) jq = upd f9 n8 (zN (vlN t8 (cq - bsN c8))) jq := by
            intro jq hj
            unfold upd
            by_cases h8 : jq = n8
            · rw [if_pos h8, if_pos h8]
            · rw [if_neg h8, if_neg h8]; exact h2 jq (by omega)
          refine ⟨rfl, ⟨rfl, Or.inr ⟨rfl, rfl, rfl, h7⟩⟩, fun _ h8 => ⟨rfl, fun jq hj => h7 jq ?_⟩⟩
          have h8 := of_decide_eq_true h8
          dsimp only at hj h8
          omega
theorem ldG_sim : ∀ (cs : List Nat) (s8 s9 : RS) (kq : Nat) (Aq : TA), inRS s8 → (∀ cq ∈ cs, cq ≤ 255) → simR s8 s9 → ldG carry cs s8 kq Aq = ldG carry cs s9 kq Aq := by
  intro cs
  induction cs with
  | nil => intro s8 s9 kq Aq _ _ _; rfl
  | cons cq cs ih =>
    intro s8 s9 kq Aq hI hc h
    obtain ⟨a1, a2, a3⟩ := simR_s (cq := cq) h
    have a4 := a2.1
    have hJ := inRS_step (cq := cq) hI (hc cq List.mem_cons_self)
    have hc2 : ∀ c9 ∈ cs, c9 ≤ 255 := fun c9 h9 => hc c9 (List.mem_cons_of_mem _ h9)
    rw [ldG_s, ldG_s]
    by_cases h1 : (pSt s8 cq).1 = true ∧ (pSt s8 cq).2.2.2.2.1 = true
    · have h2 : (pSt s9 cq).1 = true ∧ (pSt s9 cq).2.2.2.2.1 = true := ⟨by rw [← a1]; exact h1.1, by rw [← a4]; exact h1.2⟩
      rw [if_pos h1, if_pos h2]
      obtain ⟨b1, b2⟩ := a3 h1.1 h1.2
      rw [← b1, ← carry_n (pSt_lt hI h1.1 h1.2) b2]
      exact ih _ _ _ _ hJ hc2 a2
    · rw [if_neg h1, if_neg (fun hh => h1 ⟨by rw [a1]; exact hh.1, by rw [a4]; exact hh.2⟩)]
      exact ih _ _ _ _ hJ hc2 a2
theorem ldG_w {sq : RS} (h : sq.2.2.2.1 = true) {cs : List Nat} {kq : Nat} {Aq : TA} (hc : ∀ cq ∈ cs, cq ≤ 255) : ldG carry cs sq kq Aq = ldG carry cs sR0 kq Aq :=
  ldG_sim cs sq sR0 kq Aq (Or.inl h) hc ⟨h.trans rfl, Or.inl h⟩
section QA
variable {so : Nat → Nat} {g : pwG} {xx bq : Nat} {w w1 : pwW} {Fq : FS}
theorem slot_out {sl : Option TA} (hs : slotW bq sl w) : ∃ w2, pwPut w bq 2 1 (.int (zN 0)) = some w2 ∧ slotW bq none w2 ∧ ∀ aq, aq ≠ bq → w2 aq = w aq := by
  obtain ⟨fl, h1, h2, -⟩ := hs
  refine ⟨_, pp_ h1 (by show 1 < 2; decide), ⟨zN 0, va_up_self _ _ _, tAny_fr (fun aq a c => va_up_ne _ _ (by omega)) h2, rfl⟩, fun aq h => va_up_ne _ _ h⟩
theorem x_load (hs : soW so xx w) (hC : clsW xx Fq w) : ∃ w1, clsW xx (fLoad Fq).2 w1 ∧ frm xx w w1 ∧ pwX so 99 0 [some (.ref xx), none, none] [] g w = some (oC (fun _ => 1) (fLoad Fq).1 g w1) := by
  have hg := @hx_g xx w Fq hC
  have hC2 := hC
  obtain ⟨c1, c2, c3, c4, ht, -⟩ := hC2
  have i1 : pwIsC w (xx + 1) 5 = true := by
    obtain ⟨t1, t2, cm, nx, tn, wh, fs, fn, t3, t4, t5, t6, t7⟩ := ht
    exact ci_ t3
  obtain ⟨w1, a1, a2, a3⟩ := @m_first so g xx w Fq.1 hs ht
  have hC1 : clsW xx Fq w1 := cls_text hC a2 a1
  have hf1 : frm xx w w1 := fun aq h => a2 aq (by omega)
  unfold fLoad
  by_cases h1 : fErr Fq.1 = zM
  · rw [if_pos h1]
    rw [h1] at a3
    have hg1 := @hx_g xx w1 Fq hC1
    have hC3 := hC1
    obtain ⟨-, ⟨hIA, xb, sb, Rb, hT, hb⟩, -⟩ := hC3
    have b1 := @m_makeNew so g (xx + 4) xb sb Rb w1
    have b2 := @c_makeNew sb Rb
    rw [← hb] at b1
    have it1 : pwIsC w1 (xx + 4) 4 = true := by rw [hb]; exact mkT_i
    have hC4 := cls_town hC1 inv_New b2
    generalize hw2 : mkT (xx + 4) 1 (upd (upd (upd (upd (upd sb 0 (zN 0)) 1 (zN 0)) 2 (zN 0)) 3 (zN 0)) 4 (zN 0)) Rb w1 = w2 at b1 hC4
    have hf2 : ∀ aq, aq < xx ∨ xx + 280 ≤ aq → w2 aq = w1 aq := fun aq h => by rw [← hw2]; exact mkT_o (by omega)
    have hg2 := @hx_g xx w2 _ hC4
    obtain ⟨e1, e2, e3, ⟨e4, fr2, e5⟩, e6, ⟨e7, nx, e8, e9, e10, e11, -⟩, e12, e13⟩ := hC4
    have ih2 : pwIsC w2 (xx + 36) 0 = true := ci_ e9
    have b3 := @m_forgetAll so g xx w2 _ _ _ e9
    generalize hw3 : va_up w2 (xx + 36) (.inr (0, [.int (zN 0), .ref (xx + 37), .int (zN nx)])) = w3 at b3
    have hn3 : ∀ aq, aq ≠ xx + 36 → w3 aq = w2 aq := fun aq h => by rw [← hw3]; exact va_up_ne _ _ h
    have e93 : w3 (xx + 36) = .inr (0, [.int (zN 0), .ref (xx + 37), .int (zN nx)]) := by rw [← hw3, va_up_self]
    obtain ⟨w4, p4, s4, hn4⟩ := slot_out (slotW_fr (w1 := w3) (fun aq a c => hn3 aq (by omega)) e12)
    obtain ⟨w5, p5, s5, hn5⟩ := slot_out (slotW_fr (w1 := w4) (fun aq a c => (hn4 aq (by omega)).trans (hn3 aq (by omega))) e13)
    have hn : ∀ aq, aq ≠ xx + 36 → aq ≠ xx + 248 → aq ≠ xx + 264 → w5 aq = w2 aq := fun aq h h' h'' => by rw [hn5 aq h'', hn4 aq h', hn3 aq h]
    have d1 : w3 xx = w2 xx := hn3 _ (by omega)
    have d2 : w4 xx = w2 xx := (hn4 _ (by omega)).trans d1
    have g3 : ∀ {kk : Nat}, pwGet w3 xx 6 kk = ([.ref (xx + 1), .ref (xx + 4), .ref (xx + 19), .ref (xx + 34), .ref (xx + 36), .ref (xx + 248), .ref (xx + 264)] : List Value)[kk]? := fun {kk} => cg (d1.trans e1)
    have g4 : ∀ {kk : Nat}, pwGet w4 xx 6 kk = ([.ref (xx + 1), .ref (xx + 4), .ref (xx + 19), .ref (xx + 34), .ref (xx + 36), .ref (xx + 248), .ref (xx + 264)] : List Value)[kk]? := fun {kk} => cg (d2.trans e1)
    have hC5 : clsW xx (Fq.1, tNew, [], fun _ => none) w5 := by
      refine ⟨by rw [hn _ (by omega) (by omega) (by omega)]; exact e1, tA_fr (fun aq a c => hn aq (by omega) (by omega) (by omega)) e2, tAny_fr (fun aq a c => hn aq (by omega) (by omega) (by omega)) e3, ⟨by rw [hn _ (by omega) (by omega) (by omega)]; exact e4, fr2, by rw [hn _ (by omega) (by omega) (by omega)]; exact e5⟩, textW_fr (fun aq a c => hn aq (by omega) (by omega) (by omega)) e6, ⟨Nat.zero_le _, nx, e8, by rw [hn5 _ (by omega), hn4 _ (by omega)]; exact e93, ?_, fun iq hi => tAny_fr (fun aq a c => hn aq (by omega) (by omega) (by omega)) (e11 iq hi), fun iq A9 hh => by cases hh⟩, slotW_fr (fun aq a c => hn5 aq (by omega)) s4, s5⟩
      obtain ⟨fz, z1, z2⟩ := e10
      exact ⟨fz, by rw [hn _ (by omega) (by omega) (by omega)]; exact z1, z2⟩
    have hg5 := @hx_g xx w5 _ hC5
    have hC6 := hC5
    obtain ⟨-, -, -, -, ⟨t1, t2, cm, nx2, tn, wh, fs, fn, t3, t4, t5, t6, t7⟩, -⟩ := hC6
    have t3 : w5 (xx + 1) = .inr (5, [.int (zN Fq.1.length), .ref (xx + 2), .ref (xx + 3), .int cm, .int nx2, .int tn, .int wh]) := t3
    have i5 : pwIsC w5 (xx + 1) 5 = true := ci_ t3
    obtain ⟨s9, f1, f2⟩ := text_in t3 t7
    have p1 := pp_ (kk := 6) (vq := .int (zN 1)) t3 (by show 6 < 7; decide)
    have p2 : pwPut w5 (xx + 1) 5 6 (.int (zN 1)) = some (mkR (xx + 1) (zN Fq.1.length) s9 w5) := p1.trans (congrArg some f2)
    have hf5 : frm xx w w5 := fun aq h => by rw [hn _ (by omega) (by omega) (by omega), hf2 aq h]; exact hf1 aq h
    have hC7 : clsW xx (Fq.1, tNew, [], fun _ => none) (mkR (xx + 1) (zN Fq.1.length) s9 w5) := cls_mr (Fq := (Fq.1, tNew, [], fun _ => none)) hC5
    have hf7 : frm xx w5 (mkR (xx + 1) (zN Fq.1.length) s9 w5) := fun aq h => mx_o (by omega) (by omega)
    have hne : Fq.1 ≠ [] := fun hh => by
      rw [hh] at h1
      exact absurd h1 (by decide)
    have hl1 : 1 ≤ Fq.1.length := by
      cases h9 : Fq.1 with
      | nil => exact absurd h9 hne
      | cons c9 cs => rw [List.length_cons]; omega
    obtain ⟨w8, k1, k2, k3⟩ := @m_load62 so g xx Fq.1 ([], fun _ => none) Fq.1.tail 1 0 s9 tNew _ List.drop_one hl1 (Nat.zero_le _) (Or.inl f1) (soW_fr (soW_fr hs hf5) hf7) hC7 (mr_idem).symm
    rw [ldG_w f1 (fun c9 h9 => t2 c9 (List.mem_of_mem_tail h9))] at k1 k3
    refine ⟨w8, k1, frm_t hf5 (frm_t hf7 k2), ?_⟩
    show _ = some (oC _ (0, _) g _)
    rw [oC_0, ← k3]
    simp (disch := omega) only [s_X7_load_0, s_X7_load_1, s_X7_load_4, s_X7_load_7, s_X7_load_8, s_X7_load_11, s_X7_load_21, s_X7_load_22, s_X7_load_25, s_X7_load_28, s_X7_load_29, s_X7_load_32, s_X7_load_35, s_X7_load_36, s_X7_load_39, s_X7_load_40, s_X7_load_43, s_X7_load_44, s_X7_load_47, s_X7_load_48, s_X7_load_51, s_X7_load_52, s_X7_load_53, s_X7_load_54, s_X7_load_57, s_X7_load_60, s_X7_load_61, s_X6_beginReading_0, s_X6_beginReading_1, s_X6_beginReading_2, s_X6_beginReading_5, zN_neg1, nL0, nL1, nL2, nL3, nL4, nL5, nL6, nL7, nL8, nL9, nL10, nL11, nL12, nL13, nL14, nL20, nL21, nL22, nL23, nL25, nL32, nL33, nL39, nL40, nL43, nL44, nL99, nL100, nL120, nL216, nL217, nL218, nL219, nL220, nL221, nL500, nL999, nL1000, nL10000, nL100000, sh33, zN_lt, zN_le, zN_eq, zN_ge0, zN_lt0, zN_nm, zN_mn, zN_mlt, zN_ltm, zN_lem, zN_mle, zN_m1, zN_m2, zN_addm, zN_ofNat, zN_beq, zN_add, zN_sub, zN_mul, zN_rem, qT_lt, qF_lt, qT_le, qF_le, qT_eq, qF_eq, ↓reduceIte, and_true, true_and, false_and, and_false, not_true_eq_false, not_false_eq_true, decide_true, decide_false, Bool.true_or, Bool.or_true, Bool.false_or, Bool.or_false, cond_true, cond_false, qAv, qAn, cond_true, Option.bind_some, List.getElem?_cons_succ, List.getElem?_cons_zero, hg, hg1, hg2, g3, g4, hg5, i1, it1, ih2, i5, a3, b1, b3, p4, p5, p2]
  · rw [if_neg h1]
    refine ⟨w1, hC1, hf1, ?_⟩
    show _ = some (oC _ (0 + 1, 0) g w1)
    rw [oC_s]
    have h2 : (fErr Fq.1 = zM) = False := eq_false h1
    simp (disch := omega) only [s_X7_load_0, s_X7_load_1, s_X7_load_4, s_X7_load_7, s_X7_load_8, s_X7_load_11, s_X7_load_21, s_X7_load_22, s_X7_load_25, s_X7_load_28, s_X7_load_29, s_X7_load_32, s_X7_load_35, s_X7_load_36, s_X7_load_39, s_X7_load_40, s_X7_load_43, s_X7_load_44, s_X7_load_47, s_X7_load_48, s_X7_load_51, s_X7_load_52, s_X7_load_53, s_X7_load_54, s_X7_load_57, s_X7_load_60, s_X7_load_61, zN_neg1, nL0, nL1, nL2, nL3, nL4, nL5, nL6, nL7, nL8, nL9, nL10, nL11, nL12, nL13, nL14, nL20, nL21, nL22, nL23, nL25, nL32, nL33, nL39, nL40, nL43, nL44, nL99, nL100, nL120, nL216, nL217, nL218, nL219, nL220, nL221, nL500, nL999, nL1000, nL10000, nL100000, sh33, zN_lt, zN_le, zN_eq, zN_ge0, zN_lt0, zN_nm, zN_mn, zN_mlt, zN_ltm, zN_lem, zN_mle, zN_m1, zN_m2, zN_addm, zN_ofNat, zN_beq, zN_add, zN_sub, zN_mul, zN_rem, qT_lt, qF_lt, qT_le, qF_le, qT_eq, qF_eq, ↓reduceIte, and_true, true_and, false_and, and_false, not_true_eq_false, not_false_eq_true, decide_true, decide_false, Bool.true_or, Bool.or_true, Bool.false_or, Bool.or_false, cond_true, cond_false, qAv, cond_true, Option.bind_some, List.getElem?_cons_succ, List.getElem?_cons_zero, hg, i1, a3, h2]; rfl
end QA
