/-! the pure part: the class: save slots, the text buffer -/
def slU (sl : Nat → Option TA) (iq : Nat) (vq : Option TA) : Nat → Option TA := fun jq => if jq = iq then vq else sl jq
def fSave (Fq : FS) (kq : Int32) : (Nat × Int32) × FS := if kq.toInt = 0 ∨ kq.toInt = 1 then ((0, tT Fq.2.1), (Fq.1, Fq.2.1, Fq.2.2.1, slU Fq.2.2.2 (un kq) (some Fq.2.1))) else ((1, 0), Fq)
def fRest (Fq : FS) (kq : Int32) : (Nat × Int32) × FS := if kq.toInt = 0 ∨ kq.toInt = 1 then (match Fq.2.2.2 (un kq) with
  | none => ((2, 0), Fq)
  | some Aq => ((0, tT Aq), (Fq.1, Aq, [], Fq.2.2.2))) else ((1, 0), Fq)
def fApp (Fq : FS) (kq : Int32) : (Nat × Int32) × FS := if 0 ≤ kq.toInt ∧ kq.toInt ≤ 255 then (if Fq.1.length < 120 then ((0, zN (Fq.1.length + 1)), (Fq.1 ++ [un kq], Fq.2)) else ((2, 0), Fq)) else ((1, 0), Fq)
def fClr (Fq : FS) : (Nat × Int32) × FS := ((0, zN Fq.1.length), ([], Fq.2))
theorem nL255 : (255 : Int32) = zN 255 := rfl
section QA
variable {so : Nat → Nat} {g : pwG} {xx bq : Nat} {w w1 : pwW} {Fq : FS} {pq kq rq tq uq : Int32} {Aq Bq : TA} {xq : Int64} {sc : Nat → Int32} {Rq : Nat → Nat → Int32} {k9 o9 : Nat}
/-- a slot takes the town -/
theorem slot_in {sl : Option TA} (hd : xx + 248 ≤ bq) (hs : slotW bq sl w) (ht : tA (xx + 4) Aq w) : ∃ xb sb Rb, pwX so 39 0 [some (.ref (bq + 1)), some (.ref (xx + 4))] [] g w = some (.inl none, g, (mkT (bq + 1) xb sb Rb w)) ∧ pwIsC w (bq + 1) 4 = true ∧ (∃ w2, pwPut (mkT (bq + 1) xb sb Rb w) bq 2 1 (.int (zN 1)) = some w2 ∧ slotW bq (some Aq) w2 ∧ ∀ aq, aq < bq ∨ bq + 16 ≤ aq → w2 aq = w aq) := by
  obtain ⟨fl, h1, ⟨xa, sa, Ra, ha⟩, -⟩ := hs
  obtain ⟨hI, xq, sc, Rq, hT, hw⟩ := ht
  obtain ⟨sz, Rz, a1, a2⟩ := @c_become so g (bq + 1) (xx + 4) xa xq sa sc Ra Rq w Aq (by omega) hI hT
  rw [← hw, ← ha] at a2
  have g0 : mkT (bq + 1) xq sz Rz w bq = .inr (2, [.ref (bq + 1), .int fl]) := by rw [mkT_o (by omega)]; exact h1
  refine ⟨xq, sz, Rz, a2, by rw [ha]; exact mkT_i, _, pp_ g0 (by show 1 < 2; decide), ?_, fun aq h => ?_⟩
  · refine ⟨zN 1, va_up_self _ _ _, tAny_fr (fun aq a c => va_up_ne _ _ (by omega)) tAny_mk, rfl, tA_fr (fun aq a c => va_up_ne _ _ (by omega)) (tA_mk hI a1)⟩
  · rw [va_up_ne _ _ (by omega), mkT_o (by omega)]
theorem x_save (hC : clsW xx Fq w) : ∃ w1, clsW xx (fSave Fq kq).2 w1 ∧ frm xx w w1 ∧ pwX so 124 0 [some (.ref xx), some (.int kq), none] [] g w = some (oC (fun _ => 2) (fSave Fq kq).1 g w1) := by
  have hg := @hx_g xx w Fq hC
  have hC2 := hC
  obtain ⟨c1, c2, c3, ⟨c4, fr, c5⟩, c6, c7, c8, c9⟩ := hC2
  have hcell : ∀ wz : pwW, (∀ aq, aq < xx + 248 → wz aq = w aq) → wz xx = .inr (6, [.ref (xx + 1), .ref (xx + 4), .ref (xx + 19), .ref (xx + 34), .ref (xx + 36), .ref (xx + 248), .ref (xx + 264)]) ∧ tA (xx + 4) Fq.2.1 wz ∧ tAny (xx + 19) wz ∧ (wz (xx + 34) = .inr (1, [.ref (xx + 35)]) ∧ ∃ fr, wz (xx + 35) = .inl (0, 10, .inl fr)) ∧ textW xx Fq.1 wz ∧ histW xx Fq.2.2.1 wz := fun wz hz =>
    ⟨by rw [hz _ (by omega)]; exact c1, tA_fr (fun aq a c => hz aq (by omega)) c2, tAny_fr (fun aq a c => hz aq (by omega)) c3, ⟨by rw [hz _ (by omega)]; exact c4, fr, by rw [hz _ (by omega)]; exact c5⟩, textW_fr (fun aq a c => hz aq (by omega)) c6, histW_fr (fun aq a c => hz aq (by omega)) c7⟩
  have htime : ∀ wz : pwW, tA (xx + 4) Fq.2.1 wz → pwGet wz (xx + 4) 4 2 = some (.int (tT Fq.2.1)) := fun wz hz => by
    obtain ⟨hI, xq, sc, Rq, hT, hw⟩ := hz
    rw [hw, mkT_g, ← hT.1.1.2.2.2.1]; rfl
  unfold fSave
  by_cases h1 : kq.toInt = 0 ∨ kq.toInt = 1
  · rw [if_pos h1]
    obtain ⟨k9, rfl, e4, e5, e6⟩ := un_ex (pq := kq) (by omega)
    rw [e6]
    have hk : k9 = 0 ∨ k9 = 1 := by omega
    rcases hk with rfl | rfl
    · obtain ⟨xb, sb, Rb, a1, a2, w2, a3, a4, a5⟩ := @slot_in so g xx (xx + 248) w Fq.2.1 _ (Nat.le_refl _) c8 c2
      obtain ⟨d1, d2, d3, d4, d5, d6⟩ := hcell w2 (fun aq h => a5 aq (Or.inl h))
      have q1 : pwGet w (xx + 248) 2 0 = some (.ref (xx + 249)) := by obtain ⟨fl, z, -⟩ := c8; exact cg z
      have g6 : pwGet w2 xx 6 1 = some (.ref (xx + 4)) := cg d1
      have g7 := htime w2 d2
      refine ⟨w2, ⟨d1, d2, d3, d4, d5, d6, a4, slotW_fr (fun aq a c => a5 aq (by omega)) c9⟩, fun aq h => a5 aq (by omega), ?_⟩
      show _ = some (oC _ (0, _) g _)
      rw [oC_0]
      simp (disch := omega) only [s_X7_save_0, s_X7_save_1, s_X7_save_4, s_X7_save_5, s_X7_save_6, s_X7_save_9, s_X7_save_20, s_X7_save_21, s_X7_save_24, s_X7_save_25, s_X7_save_28, s_X7_save_31, s_X7_save_32, s_X7_save_35, s_X7_save_36, s_X7_save_37, s_X7_save_40, s_X7_save_41, s_X7_save_44, s_X7_save_47, s_X7_save_48, s_X7_save_49, s_X7_save_52, s_X7_save_53, s_X7_save_56, s_X7_save_59, zN_neg1, nL0, nL1, nL2, nL3, nL4, nL5, nL6, nL7, nL8, nL9, nL10, nL11, nL12, nL13, nL14, nL20, nL21, nL22, nL23, nL25, nL32, nL33, nL39, nL40, nL43, nL44, nL99, nL100, nL120, nL216, nL217, nL218, nL219, nL220, nL221, nL500, nL999, nL1000, nL10000, nL100000, qLtI, qLeI, qEqI, zN_toInt, qM1I, iT_lt, iF_lt, iT_le, iF_le, iT_eq, iF_eq, ↓reduceIte, and_true, true_and, false_and, and_false, not_true_eq_false, not_false_eq_true, qAv, qAn, cond_true, cond_false, Option.bind_some, List.getElem?_cons_succ, List.getElem?_cons_zero, hg, q1, a1, a2, a3, g6, g7, qbi, qb1, qb0]
    · obtain ⟨xb, sb, Rb, a1, a2, w2, a3, a4, a5⟩ := @slot_in so g xx (xx + 264) w Fq.2.1 _ (by omega) c9 c2
      obtain ⟨d1, d2, d3, d4, d5, d6⟩ := hcell w2 (fun aq h => a5 aq (by omega))
      have q1 : pwGet w (xx + 264) 2 0 = some (.ref (xx + 265)) := by obtain ⟨fl, z, -⟩ := c9; exact cg z
      have g6 : pwGet w2 xx 6 1 = some (.ref (xx + 4)) := cg d1
      have g7 := htime w2 d2
      refine ⟨w2, ⟨d1, d2, d3, d4, d5, d6, slotW_fr (fun aq a c => a5 aq (by omega)) c8, a4⟩, fun aq h => a5 aq (by omega), ?_⟩
      show _ = some (oC _ (0, _) g _)
      rw [oC_0]
      simp (disch := omega) only [s_X7_save_0, s_X7_save_1, s_X7_save_4, s_X7_save_5, s_X7_save_6, s_X7_save_9, s_X7_save_20, s_X7_save_21, s_X7_save_24, s_X7_save_25, s_X7_save_28, s_X7_save_31, s_X7_save_32, s_X7_save_35, s_X7_save_36, s_X7_save_37, s_X7_save_40, s_X7_save_41, s_X7_save_44, s_X7_save_47, s_X7_save_48, s_X7_save_49, s_X7_save_52, s_X7_save_53, s_X7_save_56, s_X7_save_59, zN_neg1, nL0, nL1, nL2, nL3, nL4, nL5, nL6, nL7, nL8, nL9, nL10, nL11, nL12, nL13, nL14, nL20, nL21, nL22, nL23, nL25, nL32, nL33, nL39, nL40, nL43, nL44, nL99, nL100, nL120, nL216, nL217, nL218, nL219, nL220, nL221, nL500, nL999, nL1000, nL10000, nL100000, qLtI, qLeI, qEqI, zN_toInt, qM1I, iT_lt, iF_lt, iT_le, iF_le, iT_eq, iF_eq, ↓reduceIte, and_true, true_and, false_and, and_false, not_true_eq_false, not_false_eq_true, qAv, qAn, cond_true, cond_false, Option.bind_some, List.getElem?_cons_succ, List.getElem?_cons_zero, hg, q1, a1, a2, a3, g6, g7, qbi, qb1, qb0]
  · rw [if_neg h1]
    refine ⟨w, hC, frm_s, ?_⟩
    show _ = some (oC _ (0 + 1, 0) g w)
    rw [oC_s]
    simp (disch := omega) only [s_X7_save_0, s_X7_save_1, s_X7_save_4, s_X7_save_5, s_X7_save_6, s_X7_save_9, s_X7_save_20, s_X7_save_21, s_X7_save_24, s_X7_save_25, s_X7_save_28, s_X7_save_31, s_X7_save_32, s_X7_save_35, s_X7_save_36, s_X7_save_37, s_X7_save_40, s_X7_save_41, s_X7_save_44, s_X7_save_47, s_X7_save_48, s_X7_save_49, s_X7_save_52, s_X7_save_53, s_X7_save_56, s_X7_save_59, zN_neg1, nL0, nL1, nL2, nL3, nL4, nL5, nL6, nL7, nL8, nL9, nL10, nL11, nL12, nL13, nL14, nL20, nL21, nL22, nL23, nL25, nL32, nL33, nL39, nL40, nL43, nL44, nL99, nL100, nL120, nL216, nL217, nL218, nL219, nL220, nL221, nL500, nL999, nL1000, nL10000, nL100000, qLtI, qLeI, qEqI, zN_toInt, qM1I, iT_lt, iF_lt, iT_le, iF_le, iT_eq, iF_eq, ↓reduceIte, and_true, true_and, false_and, and_false, not_true_eq_false, not_false_eq_true, qAv, qAn, cond_true, cond_false, Option.bind_some, List.getElem?_cons_succ, List.getElem?_cons_zero]; rfl
theorem m_forgetAll {v0 v1 v2 : Value} (h : w (xx + 36) = .inr (0, [v0, v1, v2])) : pwX so 1 0 [some (.ref (xx + 36))] [] g w = some (.inl none, g, (va_up w (xx + 36) (.inr (0, [.int (zN 0), v1, v2])))) := by
  have p1 := pp_ (kk := 0) (vq := .int (zN 0)) h (by show 0 < 3; decide)
  simp (disch := omega) only [s_X0_forgetAll_0, s_X0_forgetAll_1, s_X0_forgetAll_2, s_X0_forgetAll_5, zN_neg1, nL0, nL1, nL2, nL3, nL4, nL5, nL6, nL7, nL8, nL9, nL10, nL11, nL12, nL13, nL14, nL20, nL21, nL22, nL23, nL25, nL32, nL33, nL39, nL40, nL43, nL44, nL99, nL100, nL120, nL216, nL217, nL218, nL219, nL220, nL221, nL500, nL999, nL1000, nL10000, nL100000, p1, Option.bind_some]
  rfl
theorem x_rest (hC : clsW xx Fq w) : ∃ w1, clsW xx (fRest Fq kq).2 w1 ∧ frm xx w w1 ∧ pwX so 125 0 [some (.ref xx), some (.int kq), none] [] g w = some (oC (fun jq => if jq = 1 then 2 else 1) (fRest Fq kq).1 g w1) := by
  have hg := @hx_g xx w Fq hC
  have hC2 := hC
  obtain ⟨c1, c2, c3, ⟨c4, fr, c5⟩, c6, c7, c8, c9⟩ := hC2
  -- the town becomes what lies in a slot, and all is forgotten
  have go : ∀ (bz : Nat) (Aq : TA), xx + 249 ≤ bz → bz + 15 ≤ xx + 280 → tA bz Aq w → ∃ xb sb Rb w2, pwX so 39 0 [some (.ref (xx + 4)), some (.ref bz)] [] g w = some (.inl none, g, (mkT (xx + 4) xb sb Rb w)) ∧ pwIsC w (xx + 4) 4 = true ∧ pwIsC (mkT (xx + 4) xb sb Rb w) (xx + 36) 0 = true ∧ pwGet (mkT (xx + 4) xb sb Rb w) xx 6 4 = some (.ref (xx + 36)) ∧ pwX so 1 0 [some (.ref (xx + 36))] [] g (mkT (xx + 4) xb sb Rb w) = some (.inl none, g, w2) ∧ pwGet w2 xx 6 1 = some (.ref (xx + 4)) ∧ pwGet w2 (xx + 4) 4 2 = some (.int (tT Aq)) ∧ clsW xx (Fq.1, Aq, [], Fq.2.2.2) w2 ∧ frm xx w w2 := by
    intro bz Aq hb1 hb2 hA
    obtain ⟨hI, xq, sc, Rq, hT, hw⟩ := c2
    obtain ⟨hJ, xb, sb, Rb, hTb, hb⟩ := hA
    obtain ⟨sa, Ra, a1, a2⟩ := @c_become so g (xx + 4) bz xq xb sc sb Rq Rb w Aq (by omega) hJ hTb
    rw [← hb, ← hw] at a2
    have d := cls_town hC hJ a1
    have d9 := d
    obtain ⟨e1, e2, e3, ⟨e4, fr2, e5⟩, e6, ⟨e7, nx, e8, e9, e10, e11, -⟩, e12, e13⟩ := d9
    have f1 := @m_forgetAll so g xx _ _ _ _ e9
    refine ⟨xb, sa, Ra, _, a2, by rw [hw]; exact mkT_i, ci_ e9, cg e1, f1, ?_, ?_, ?_, ?_⟩
    · refine (cg (w := va_up (mkT (xx + 4) xb sa Ra w) (xx + 36) _) (by rw [va_up_ne _ _ (by omega)]; exact e1)).trans rfl
    · have hz : tA (xx + 4) Aq (va_up (mkT (xx + 4) xb sa Ra w) (xx + 36) (.inr (0, [.int (zN 0), .ref (xx + 37), .int (zN nx)]))) := tA_fr (fun aq a c => va_up_ne _ _ (by omega)) e2
      obtain ⟨hI2, xq2, sc2, Rq2, hT2, hw2⟩ := hz
      rw [hw2, mkT_g, ← hT2.1.1.2.2.2.1]; rfl
    · have hn : ∀ aq, aq ≠ xx + 36 → va_up (mkT (xx + 4) xb sa Ra w) (xx + 36) (.inr (0, [.int (zN 0), .ref (xx + 37), .int (zN nx)])) aq = mkT (xx + 4) xb sa Ra w aq := fun aq h => va_up_ne _ _ h
      refine ⟨by rw [hn _ (by omega)]; exact e1, tA_fr (fun aq a c => hn aq (by omega)) e2, tAny_fr (fun aq a c => hn aq (by omega)) e3, ⟨by rw [hn _ (by omega)]; exact e4, fr2, by rw [hn _ (by omega)]; exact e5⟩, textW_fr (fun aq a c => hn aq (by omega)) e6, ⟨Nat.zero_le _, nx, e8, va_up_self _ _ _, ?_, fun iq hi => tAny_fr (fun aq a c => hn aq (by omega)) (e11 iq hi), fun iq A9 hh => by cases hh⟩, slotW_fr (fun aq a c => hn aq (by omega)) e12, slotW_fr (fun aq a c => hn aq (by omega)) e13⟩
      obtain ⟨fz, z1, z2⟩ := e10
      exact ⟨fz, by rw [hn _ (by omega)]; exact z1, z2⟩
    · intro aq h
      rw [va_up_ne _ _ (by omega), mkT_o (by omega)]
  unfold fRest
  by_cases h1 : kq.toInt = 0 ∨ kq.toInt = 1
  · rw [if_pos h1]
    obtain ⟨k9, rfl, e4, e5, e6⟩ := un_ex (pq := kq) (by omega)
    rw [e6]
    have hk : k9 = 0 ∨ k9 = 1 := by omega
    rcases hk with rfl | rfl
    · obtain ⟨fl, s1, s2, s3⟩ := c8
      have q0 : pwGet w (xx + 248) 2 0 = some (.ref (xx + 249)) := cg s1
      have q1 : pwGet w (xx + 248) 2 1 = some (.int fl) := cg s1
      cases hS : Fq.2.2.2 0 with
      | none =>
        rw [hS] at s3
        have s3 : fl = zN 0 := s3
        rw [s3] at q1
        refine ⟨w, hC, frm_s, ?_⟩
        show _ = some (oC _ (1 + 1, 0) g w)
        rw [oC_s]
        simp (disch := omega) only [s_X7_restore_0, s_X7_restore_1, s_X7_restore_4, s_X7_restore_5, s_X7_restore_6, s_X7_restore_9, s_X7_restore_20, s_X7_restore_21, s_X7_restore_24, s_X7_restore_25, s_X7_restore_28, s_X7_restore_31, s_X7_restore_32, s_X7_restore_35, s_X7_restore_36, s_X7_restore_37, s_X7_restore_40, s_X7_restore_43, s_X7_restore_54, s_X7_restore_55, s_X7_restore_58, s_X7_restore_59, s_X7_restore_62, s_X7_restore_65, s_X7_restore_66, s_X7_restore_69, s_X7_restore_72, s_X7_restore_73, s_X7_restore_76, s_X7_restore_79, zN_neg1, nL0, nL1, nL2, nL3, nL4, nL5, nL6, nL7, nL8, nL9, nL10, nL11, nL12, nL13, nL14, nL20, nL21, nL22, nL23, nL25, nL32, nL33, nL39, nL40, nL43, nL44, nL99, nL100, nL120, nL216, nL217, nL218, nL219, nL220, nL221, nL500, nL999, nL1000, nL10000, nL100000, qLtI, qLeI, qEqI, zN_toInt, qM1I, iT_lt, iF_lt, iT_le, iF_le, iT_eq, iF_eq, ↓reduceIte, and_true, true_and, false_and, and_false, not_true_eq_false, not_false_eq_true, qAv, qAn, cond_true, cond_false, Option.bind_some, List.getElem?_cons_succ, List.getElem?_cons_zero, hg, q1]; rfl
      | some Aq =>
        rw [hS] at s3
        obtain ⟨s3, s4⟩ := s3
        rw [s3] at q1
        obtain ⟨xb, sb, Rb, w2, z1, z2, z3, z4, z5, z6, z7, z8, z9⟩ := go (xx + 249) Aq (by omega) (by omega) s4
        refine ⟨w2, z8, z9, ?_⟩
        show _ = some (oC _ (0, _) g _)
        rw [oC_0]
        simp (disch := omega) only [s_X7_restore_0, s_X7_restore_1, s_X7_restore_4, s_X7_restore_5, s_X7_restore_6, s_X7_restore_9, s_X7_restore_20, s_X7_restore_21, s_X7_restore_24, s_X7_restore_25, s_X7_restore_28, s_X7_restore_31, s_X7_restore_32, s_X7_restore_35, s_X7_restore_36, s_X7_restore_37, s_X7_restore_40, s_X7_restore_43, s_X7_restore_54, s_X7_restore_55, s_X7_restore_58, s_X7_restore_59, s_X7_restore_62, s_X7_restore_65, s_X7_restore_66, s_X7_restore_69, s_X7_restore_72, s_X7_restore_73, s_X7_restore_76, s_X7_restore_79, zN_neg1, nL0, nL1, nL2, nL3, nL4, nL5, nL6, nL7, nL8, nL9, nL10, nL11, nL12, nL13, nL14, nL20, nL21, nL22, nL23, nL25, nL32, nL33, nL39, nL40, nL43, nL44, nL99, nL100, nL120, nL216, nL217, nL218, nL219, nL220, nL221, nL500, nL999, nL1000, nL10000, nL100000, qLtI, qLeI, qEqI, zN_toInt, qM1I, iT_lt, iF_lt, iT_le, iF_le, iT_eq, iF_eq, ↓reduceIte, and_true, true_and, false_and, and_false, not_true_eq_false, not_false_eq_true, qAv, qAn, cond_true, cond_false, Option.bind_some, List.getElem?_cons_succ, List.getElem?_cons_zero, hg, q0, q1, z1, z2, z3, z4, z5, z6, z7]
    · obtain ⟨fl, s1, s2, s3⟩ := c9
      have q0 : pwGet w (xx + 264) 2 0 = some (.ref (xx + 265)) := cg s1
      have q1 : pwGet w (xx + 264) 2 1 = some (.int fl) := cg s1
      cases hS : Fq.2.2.2 1 with
      | none =>
        rw [hS] at s3
        have s3 : fl = zN 0 := s3
        rw [s3] at q1
        refine ⟨w, hC, frm_s, ?_⟩
        show _ = some (oC _ (1 + 1, 0) g w)
        rw [oC_s]
        simp (disch := omega) only [s_X7_restore_0, s_X7_restore_1, s_X7_restore_4, s_X7_restore_5, s_X7_restore_6, s_X7_restore_9, s_X7_restore_20, s_X7_restore_21, s_X7_restore_24, s_X7_restore_25, s_X7_restore_28, s_X7_restore_31, s_X7_restore_32, s_X7_restore_35, s_X7_restore_36, s_X7_restore_37, s_X7_restore_40, s_X7_restore_43, s_X7_restore_54, s_X7_restore_55, s_X7_restore_58, s_X7_restore_59, s_X7_restore_62, s_X7_restore_65, s_X7_restore_66, s_X7_restore_69, s_X7_restore_72, s_X7_restore_73, s_X7_restore_76, s_X7_restore_79, zN_neg1, nL0, nL1, nL2, nL3, nL4, nL5, nL6, nL7, nL8, nL9, nL10, nL11, nL12, nL13, nL14, nL20, nL21, nL22, nL23, nL25, nL32, nL33, nL39, nL40, nL43, nL44, nL99, nL100, nL120, nL216, nL217, nL218, nL219, nL220, nL221, nL500, nL999, nL1000, nL10000, nL100000, qLtI, qLeI, qEqI, zN_toInt, qM1I, iT_lt, iF_lt, iT_le, iF_le, iT_eq, iF_eq, ↓reduceIte, and_true, true_and, false_and, and_false, not_true_eq_false, not_false_eq_true, qAv, qAn, cond_true, cond_false, Option.bind_some, List.getElem?_cons_succ, List.getElem?_cons_zero, hg, q1]; rfl
      | some Aq =>
        rw [hS] at s3
        obtain ⟨s3, s4⟩ := s3
        rw [s3] at q1
        obtain ⟨xb, sb, Rb, w2, z1, z2, z3, z4, z5, z6, z7, z8, z9⟩ := go (xx + 265) Aq (by omega) (by omega) s4
        refine ⟨w2, z8, z9, ?_⟩
        show _ = some (oC _ (0, _) g _)
        rw [oC_0]
        simp (disch := omega) only [s_X7_restore_0, s_X7_restore_1, s_X7_restore_4, s_X7_restore_5, s_X7_restore_6, s_X7_restore_9, s_X7_restore_20, s_X7_restore_21, s_X7_restore_24, s_X7_restore_25, s_X7_restore_28, s_X7_restore_31, s_X7_restore_32, s_X7_restore_35, s_X7_restore_36, s_X7_restore_37, s_X7_restore_40, s_X7_restore_43, s_X7_restore_54, s_X7_restore_55, s_X7_restore_58, s_X7_restore_59, s_X7_restore_62, s_X7_restore_65, s_X7_restore_66, s_X7_restore_69, s_X7_restore_72, s_X7_restore_73, s_X7_restore_76, s_X7_restore_79, zN_neg1, nL0, nL1, nL2, nL3, nL4, nL5, nL6, nL7, nL8, nL9, nL10, nL11, nL12, nL13, nL14, nL20, nL21, nL22, nL23, nL25, nL32, nL33, nL39, nL40, nL43, nL44, nL99, nL100, nL120, nL216, nL217, nL218, nL219, nL220, nL221, nL500, nL999, nL1000, nL10000, nL100000, qLtI, qLeI, qEqI, zN_toInt, qM1I, iT_lt, iF_lt, iT_le, iF_le, iT_eq, iF_eq, ↓reduceIte, and_true, true_and, false_and, and_false, not_true_eq_false, not_false_eq_true, qAv, qAn, cond_true, cond_false, Option.bind_some, List.getElem?_cons_succ, List.getElem?_cons_zero, hg, q0, q1, z1, z2, z3, z4, z5, z6, z7]
  · rw [if_neg h1]
    refine ⟨w, hC, frm_s, ?_⟩
    show _ = some (oC _ (0 + 1, 0) g w)
    rw [oC_s]
    simp (disch := omega) only [s_X7_restore_0, s_X7_restore_1, s_X7_restore_4, s_X7_restore_5, s_X7_restore_6, s_X7_restore_9, s_X7_restore_20, s_X7_restore_21, s_X7_restore_24, s_X7_restore_25, s_X7_restore_28, s_X7_restore_31, s_X7_restore_32, s_X7_restore_35, s_X7_restore_36, s_X7_restore_37, s_X7_restore_40, s_X7_restore_43, s_X7_restore_54, s_X7_restore_55, s_X7_restore_58, s_X7_restore_59, s_X7_restore_62, s_X7_restore_65, s_X7_restore_66, s_X7_restore_69, s_X7_restore_72, s_X7_restore_73, s_X7_restore_76, s_X7_restore_79, zN_neg1, nL0, nL1, nL2, nL3, nL4, nL5, nL6, nL7, nL8, nL9, nL10, nL11, nL12, nL13, nL14, nL20, nL21, nL22, nL23, nL25, nL32, nL33, nL39, nL40, nL43, nL44, nL99, nL100, nL120, nL216, nL217, nL218, nL219, nL220, nL221, nL500, nL999, nL1000, nL10000, nL100000, qLtI, qLeI, qEqI, zN_toInt, qM1I, iT_lt, iF_lt, iT_le, iF_le, iT_eq, iF_eq, ↓reduceIte, and_true, true_and, false_and, and_false, not_true_eq_false, not_false_eq_true, qAv, qAn, cond_true, cond_false, Option.bind_some, List.getElem?_cons_succ, List.getElem?_cons_zero]; rfl
/-- the text alone has changed -/
theorem cls_text {tx : List Nat} (hC : clsW xx Fq w) (hf : ∀ aq, aq < xx + 1 ∨ xx + 4 ≤ aq → w1 aq = w aq) (ht : textW xx tx w1) : clsW xx (tx, Fq.2) w1 := by
  obtain ⟨h1, h2, h3, ⟨h4, fr, h5⟩, h6, h7, h8, h9⟩ := hC
  exact ⟨by rw [hf _ (by omega)]; exact h1, tA_fr (fun aq a c => hf aq (by omega)) h2, tAny_fr (fun aq a c => hf aq (by omega)) h3, ⟨by rw [hf _ (by omega)]; exact h4, fr, by rw [hf _ (by omega)]; exact h5⟩, ht, histW_fr (fun aq a c => hf aq (by omega)) h7, slotW_fr (fun aq a c => hf aq (by omega)) h8, slotW_fr (fun aq a c => hf aq (by omega)) h9⟩
theorem x_clr (hC : clsW xx Fq w) : ∃ w1, clsW xx (fClr Fq).2 w1 ∧ frm xx w w1 ∧ pwX so 97 0 [some (.ref xx)] [] g w = some (oC (fun _ => 0) (fClr Fq).1 g w1) := by
  have hg := @hx_g xx w Fq hC
  have hC2 := hC
  obtain ⟨c1, c2, c3, c4, ⟨t1, t2, cm, nx, tn, wh, fs, fn, t3, t4, t5, t6, t7⟩, -⟩ := hC2
  have i1 : pwIsC w (xx + 1) 5 = true := ci_ t3
  have q1 : pwGet w (xx + 1) 5 0 = some (.int (zN Fq.1.length)) := cg t3
  have p1 := pp_ (kk := 0) (vq := .int (zN 0)) t3 (by show 0 < 7; decide)
  refine ⟨va_up w (xx + 1) (.inr (5, [.int (zN 0), .ref (xx + 2), .ref (xx + 3), .int cm, .int nx, .int tn, .int wh])), ?_, fun aq h => va_up_ne _ _ (by omega), ?_⟩
  · exact cls_text hC (fun aq h => va_up_ne _ _ (by omega)) ⟨Nat.zero_le _, fun cq h => (by cases h), cm, nx, tn, wh, fs, fn, va_up_self _ _ _, t4, by rw [va_up_ne _ _ (by omega)]; exact t5, fun iq kq hh => (by cases hh), by rw [va_up_ne _ _ (by omega)]; exact t7⟩
  · show _ = some (oC _ (0, _) g _)
    rw [oC_0]
    simp (disch := omega) only [s_X7_clearText_0, s_X7_clearText_1, s_X7_clearText_4, s_X7_clearText_7, s_X6_emptied_0, s_X6_emptied_1, s_X6_emptied_4, s_X6_emptied_5, s_X6_emptied_6, s_X6_emptied_7, s_X6_emptied_10, s_X6_emptied_11, zN_neg1, nL0, nL1, nL2, nL3, nL4, nL5, nL6, nL7, nL8, nL9, nL10, nL11, nL12, nL13, nL14, nL20, nL21, nL22, nL23, nL25, nL32, nL33, nL39, nL40, nL43, nL44, nL99, nL100, nL120, nL216, nL217, nL218, nL219, nL220, nL221, nL500, nL999, nL1000, nL10000, nL100000, qLtI, qLeI, qEqI, zN_toInt, qM1I, iT_lt, iF_lt, iT_le, iF_le, iT_eq, iF_eq, ↓reduceIte, and_true, true_and, false_and, and_false, not_true_eq_false, not_false_eq_true, qAv, qAn, cond_true, cond_false, Option.bind_some, List.getElem?_cons_succ, List.getElem?_cons_zero, hg, i1, q1, p1]; rfl
theorem x_app (hC : clsW xx Fq w) : ∃ w1, clsW xx (fApp Fq kq).2 w1 ∧ frm xx w w1 ∧ pwX so 96 0 [some (.ref xx), some (.int kq)] [] g w = some (oC (fun jq => if jq = 1 then 0 else 1) (fApp Fq kq).1 g w1) := by
  have hg := @hx_g xx w Fq hC
  have hC2 := hC
  obtain ⟨c1, c2, c3, c4, ⟨t1, t2, cm, nx, tn, wh, fs, fn, t3, t4, t5, t6, t7⟩, -⟩ := hC2
  have i1 : pwIsC w (xx + 1) 5 = true := ci_ t3
  have q1 : pwGet w (xx + 1) 5 0 = some (.int (zN Fq.1.length)) := cg t3
  unfold fApp
  by_cases h1 : 0 ≤ kq.toInt ∧ kq.toInt ≤ 255
  · rw [if_pos h1]
    obtain ⟨k9, rfl, e4, e5, e6⟩ := un_ex h1.1
    rw [e6]
    by_cases h2 : Fq.1.length < 120
    · rw [if_pos h2]
      have q2 : pwGet w (xx + 1) 5 1 = some (.ref (xx + 2)) := cg t3
      have a1 := @q_put so g w (xx + 2) 120 (zN Fq.1.length) (zN k9) fs t5 (by decide)
      rw [qWr_in h2 (by omega)] at a1
      generalize hw2 : va_up w (xx + 2) (.inl (0, 120, .inl (upd fs Fq.1.length (zN k9)))) = w2 at a1
      have t32 : w2 (xx + 1) = .inr (5, [.int (zN Fq.1.length), .ref (xx + 2), .ref (xx + 3), .int cm, .int nx, .int tn, .int wh]) := by rw [← hw2, va_up_ne _ _ (by omega)]; exact t3
      have q3 : pwGet w2 (xx + 1) 5 0 = some (.int (zN Fq.1.length)) := cg t32
      have p1 := pp_ (kk := 0) (vq := .int (zN (Fq.1.length + 1))) t32 (by show 0 < 7; decide)
      generalize hw3 : va_up w2 (xx + 1) (.inr (5, [.int (zN (Fq.1.length + 1)), .ref (xx + 2), .ref (xx + 3), .int cm, .int nx, .int tn, .int wh])) = w3
      have p2 : pwPut w2 (xx + 1) 5 0 (.int (zN (Fq.1.length + 1))) = some w3 := by rw [← hw3]; exact p1
      have t33 : w3 (xx + 1) = .inr (5, [.int (zN (Fq.1.length + 1)), .ref (xx + 2), .ref (xx + 3), .int cm, .int nx, .int tn, .int wh]) := by rw [← hw3, va_up_self]
      have q4 : pwGet w3 (xx + 1) 5 0 = some (.int (zN (Fq.1.length + 1))) := cg t33
      have hf : ∀ aq, aq < xx + 1 ∨ xx + 4 ≤ aq → w3 aq = w aq := fun aq h => by rw [← hw3, ← hw2, va_up_ne _ _ (by omega), va_up_ne _ _ (by omega)]
      refine ⟨w3, ?_, fun aq h => hf aq (by omega), ?_⟩
      · refine cls_text hC hf ⟨by rw [List.length_append]; show Fq.1.length + 1 ≤ 120; omega, fun cq h => ?_, cm, nx, tn, wh, upd fs Fq.1.length (zN k9), fn, by rw [List.length_append]; exact t33, t4, by rw [← hw3, ← hw2, va_up_ne _ _ (by omega), va_up_self], ?_, by rw [← hw3, ← hw2, va_up_ne _ _ (by omega), va_up_ne _ _ (by omega)]; exact t7⟩
        · rcases List.mem_append.mp h with h | h
          · exact t2 cq h
          · cases List.mem_singleton.mp h; omega
        · exact f_more t6
      · show _ = some (oC _ (0, _) g _)
        rw [oC_0]
        have zadd : zN Fq.1.length + zN 1 = zN (Fq.1.length + 1) := zN_add
        simp (disch := omega) only [s_X7_append_0, s_X7_append_1, s_X7_append_4, s_X7_append_5, s_X7_append_8, s_X7_append_11, s_X7_append_21, s_X7_append_22, s_X7_append_25, s_X7_append_28, s_X7_append_31, s_X7_append_41, s_X7_append_42, s_X7_append_45, s_X7_append_46, s_X7_append_49, s_X6_addSign_0, s_X6_addSign_1, s_X6_addSign_4, s_X6_addSign_5, s_X6_addSign_8, s_X6_addSign_9, s_X6_addSign_12, s_X6_addSign_13, s_X6_addSign_14, s_X6_addSign_17, s_X6_addSign_18, s_X6_addSign_19, s_X6_addSign_22, s_X6_addSign_23, s_X6_addSign_26, s_X6_isFull_0, s_X6_isFull_1, s_X6_isFull_4, s_X6_isFull_6, s_X6_isFull_9, s_X6_isFull_10, s_X6_isFull_13, s_X6_isFull_14, zN_neg1, nL0, nL1, nL2, nL3, nL4, nL5, nL6, nL7, nL8, nL9, nL10, nL11, nL12, nL13, nL14, nL20, nL21, nL22, nL23, nL25, nL32, nL33, nL39, nL40, nL43, nL44, nL99, nL100, nL120, nL216, nL217, nL218, nL219, nL220, nL221, nL500, nL999, nL1000, nL10000, nL100000, qLtI, qLeI, qEqI, zN_toInt, qM1I, iT_lt, iF_lt, iT_le, iF_le, iT_eq, iF_eq, ↓reduceIte, and_true, true_and, false_and, and_false, not_true_eq_false, not_false_eq_true, qAv, qAn, cond_true, cond_false, Option.bind_some, List.getElem?_cons_succ, List.getElem?_cons_zero, qbi, qb1, qb0, nL255, zadd, hg, i1, q1, q2, a1, q3, p2, q4]
    · rw [if_neg h2]
      refine ⟨w, hC, frm_s, ?_⟩
      show _ = some (oC _ (1 + 1, 0) g w)
      rw [oC_s]
      simp (disch := omega) only [s_X7_append_0, s_X7_append_1, s_X7_append_4, s_X7_append_5, s_X7_append_8, s_X7_append_11, s_X7_append_21, s_X7_append_22, s_X7_append_25, s_X7_append_28, s_X7_append_31, s_X7_append_41, s_X7_append_42, s_X7_append_45, s_X7_append_46, s_X7_append_49, s_X6_isFull_0, s_X6_isFull_1, s_X6_isFull_4, s_X6_isFull_6, s_X6_isFull_9, s_X6_isFull_10, s_X6_isFull_13, s_X6_isFull_14, zN_neg1, nL0, nL1, nL2, nL3, nL4, nL5, nL6, nL7, nL8, nL9, nL10, nL11, nL12, nL13, nL14, nL20, nL21, nL22, nL23, nL25, nL32, nL33, nL39, nL40, nL43, nL44, nL99, nL100, nL120, nL216, nL217, nL218, nL219, nL220, nL221, nL500, nL999, nL1000, nL10000, nL100000, qLtI, qLeI, qEqI, zN_toInt, qM1I, iT_lt, iF_lt, iT_le, iF_le, iT_eq, iF_eq, ↓reduceIte, and_true, true_and, false_and, and_false, not_true_eq_false, not_false_eq_true, qAv, qAn, cond_true, cond_false, Option.bind_some, List.getElem?_cons_succ, List.getElem?_cons_zero, qbi, qb1, qb0, nL255, hg, i1, q1]; rfl
  · rw [if_neg h1]
    refine ⟨w, hC, frm_s, ?_⟩
    show _ = some (oC _ (0 + 1, 0) g w)
    rw [oC_s]
    by_cases h2 : 0 ≤ kq.toInt
    · simp (disch := omega) only [s_X7_append_0, s_X7_append_1, s_X7_append_4, s_X7_append_5, s_X7_append_8, s_X7_append_11, s_X7_append_21, s_X7_append_22, s_X7_append_25, s_X7_append_28, s_X7_append_31, s_X7_append_41, s_X7_append_42, s_X7_append_45, s_X7_append_46, s_X7_append_49, zN_neg1, nL0, nL1, nL2, nL3, nL4, nL5, nL6, nL7, nL8, nL9, nL10, nL11, nL12, nL13, nL14, nL20, nL21, nL22, nL23, nL25, nL32, nL33, nL39, nL40, nL43, nL44, nL99, nL100, nL120, nL216, nL217, nL218, nL219, nL220, nL221, nL500, nL999, nL1000, nL10000, nL100000, qLtI, qLeI, qEqI, zN_toInt, qM1I, iT_lt, iF_lt, iT_le, iF_le, iT_eq, iF_eq, ↓reduceIte, and_true, true_and, false_and, and_false, not_true_eq_false, not_false_eq_true, qAv, qAn, cond_true, cond_false, Option.bind_some, List.getElem?_cons_succ, List.getElem?_cons_zero, nL255]; rfl
    · simp (disch := omega) only [s_X7_append_0, s_X7_append_1, s_X7_append_4, s_X7_append_5, s_X7_append_8, s_X7_append_11, s_X7_append_21, s_X7_append_22, s_X7_append_25, s_X7_append_28, s_X7_append_31, s_X7_append_41, s_X7_append_42, s_X7_append_45, s_X7_append_46, s_X7_append_49, zN_neg1, nL0, nL1, nL2, nL3, nL4, nL5, nL6, nL7, nL8, nL9, nL10, nL11, nL12, nL13, nL14, nL20, nL21, nL22, nL23, nL25, nL32, nL33, nL39, nL40, nL43, nL44, nL99, nL100, nL120, nL216, nL217, nL218, nL219, nL220, nL221, nL500, nL999, nL1000, nL10000, nL100000, qLtI, qLeI, qEqI, zN_toInt, qM1I, iT_lt, iF_lt, iT_le, iF_le, iT_eq, iF_eq, ↓reduceIte, and_true, true_and, false_and, and_false, not_true_eq_false, not_false_eq_true, qAv, qAn, cond_true, cond_false, Option.bind_some, List.getElem?_cons_succ, List.getElem?_cons_zero, nL255]; rfl
end QA
