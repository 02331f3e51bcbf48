/-! the pure part: the class's reading and the model's are the same -/
theorem rfac_ : ∀ (j9 : Fin 7) (n9 : Fin 4), 3 * n9.1 + 2 < rwN j9.1 → (rwV j9.1 (3 * n9.1) = 1 ∧ rwV j9.1 (3 * n9.1 + 2) ≤ (if j9.1 = 0 then 25 else 9)) ∨ (rwV j9.1 (3 * n9.1) = 2 ∧ j9.1 ≠ 0 ∧ rwV j9.1 (3 * n9.1 + 2) ≤ 99 ∧ rwV j9.1 (3 * n9.1 + 1) ≤ rwV j9.1 (3 * n9.1 + 2)) := by decide +kernel
theorem ltI_w {cq : Nat} (h : ltI cq = 0) : cq = 119 := by
  rcases lt7 (cq := cq) (by omega) with rfl | rfl | rfl | rfl | rfl | rfl | rfl
  · rfl
  · exact absurd h (by decide)
  · exact absurd h (by decide)
  · exact absurd h (by decide)
  · exact absurd h (by decide)
  · exact absurd h (by decide)
  · exact absurd h (by decide)
theorem rfac {cq nq : Nat} (hc : ltI cq < 7) (hn : 3 * nq + 2 < rwN (ltI cq)) : (rwV (ltI cq) (3 * nq) = 1 ∧ rwV (ltI cq) (3 * nq + 2) ≤ hiN cq) ∨ (rwV (ltI cq) (3 * nq) = 2 ∧ hiN cq = 9 ∧ rwV (ltI cq) (3 * nq + 2) ≤ 99 ∧ rwV (ltI cq) (3 * nq + 1) ≤ rwV (ltI cq) (3 * nq + 2)) := by
  have h12 := @rwN_le (ltI cq)
  rcases rfac_ ⟨ltI cq, hc⟩ ⟨nq, by omega⟩ hn with ⟨h1, h2⟩ | ⟨h1, h2, h3, h4⟩
  · left
    refine ⟨h1, Nat.le_trans h2 ?_⟩
    unfold hiN
    by_cases h : cq = 119
    · rw [if_pos h]; split <;> omega
    · rw [if_neg h, if_neg (show ¬ ltI cq = 0 from fun hh => h (ltI_w hh))]; exact Nat.le_refl _
  · right
    refine ⟨h1, ?_, h3, h4⟩
    unfold hiN
    rw [if_neg (fun hh => h2 (by show ltI cq = 0; rw [hh]; decide))]
def sqN (cq nq : Nat) (fz : Nat → Int32) (vq : Nat) : RS := (cq, nq + 1, none, decide (rwN (ltI cq) ≤ 3 * (nq + 1)), upd fz nq (zN vq))
theorem pS1T {cq nq xq : Nat} {fz : Nat → Int32} (h1 : rwV (ltI cq) (3 * nq) = 1) (h2 : rwV (ltI cq) (3 * nq + 2) ≤ hiN cq) (hx : bsN cq + rwV (ltI cq) (3 * nq + 1) ≤ xq ∧ xq ≤ bsN cq + rwV (ltI cq) (3 * nq + 2)) : pSt (cq, nq, none, false, fz) xq = (true, sqN cq nq fz (xq - bsN cq)) := by
  unfold pSt
  dsimp only
  rw [if_neg Bool.false_ne_true, if_neg (by omega), if_neg (fun hh => by have := hh.1; omega)]
  have h3 : vlN none (xq - bsN cq) = xq - bsN cq := rfl
  rw [h3]
  have h4 : decide (rwV (ltI cq) (3 * nq + 1) ≤ xq - bsN cq ∧ xq - bsN cq ≤ rwV (ltI cq) (3 * nq + 2)) = true := decide_eq_true (by omega)
  rw [h4]
  rfl
theorem pS1F {cq nq xq : Nat} {fz : Nat → Int32} (h1 : rwV (ltI cq) (3 * nq) = 1) (hx : ¬ (bsN cq + rwV (ltI cq) (3 * nq + 1) ≤ xq ∧ xq ≤ bsN cq + rwV (ltI cq) (3 * nq + 2))) : (pSt (cq, nq, none, false, fz) xq).1 = false := by
  unfold pSt
  dsimp only
  rw [if_neg Bool.false_ne_true]
  by_cases h2 : xq < bsN cq ∨ bsN cq + hiN cq < xq
  · rw [if_pos h2]
  · rw [if_neg h2, if_neg (fun hh => by have := hh.1; omega)]
    have h3 : vlN none (xq - bsN cq) = xq - bsN cq := rfl
    rw [h3]
    exact decide_eq_false (by omega)
theorem pS2T {cq nq xq : Nat} {fz : Nat → Int32} (h1 : rwV (ltI cq) (3 * nq) = 2) (h9 : hiN cq = 9) (h99 : rwV (ltI cq) (3 * nq + 2) ≤ 99) (hx : bsN cq + rwV (ltI cq) (3 * nq + 1) / 10 ≤ xq ∧ xq ≤ bsN cq + rwV (ltI cq) (3 * nq + 2) / 10) : pSt (cq, nq, none, false, fz) xq = (true, (cq, nq, some (xq - bsN cq), false, fz)) := by
  unfold pSt
  dsimp only
  rw [if_neg Bool.false_ne_true, if_neg (by omega), if_pos ⟨h1, rfl⟩]
  have h4 : decide (rwV (ltI cq) (3 * nq + 1) ≤ 10 * (xq - bsN cq) + 9 ∧ 10 * (xq - bsN cq) ≤ rwV (ltI cq) (3 * nq + 2)) = true := decide_eq_true (by omega)
  rw [h4]
theorem pS2F {cq nq xq : Nat} {fz : Nat → Int32} (h1 : rwV (ltI cq) (3 * nq) = 2) (hx : ¬ (bsN cq + rwV (ltI cq) (3 * nq + 1) / 10 ≤ xq ∧ xq ≤ bsN cq + rwV (ltI cq) (3 * nq + 2) / 10)) : (pSt (cq, nq, none, false, fz) xq).1 = false := by
  unfold pSt
  dsimp only
  rw [if_neg Bool.false_ne_true]
  by_cases h2 : xq < bsN cq ∨ bsN cq + hiN cq < xq
  · rw [if_pos h2]
  · rw [if_neg h2, if_pos ⟨h1, rfl⟩]
    exact decide_eq_false (by omega)
theorem pS3T {cq nq xq t9 : Nat} {fz : Nat → Int32} (h9 : hiN cq = 9) (hl : rwV (ltI cq) (3 * nq + 1) ≤ rwV (ltI cq) (3 * nq + 2)) (h99 : rwV (ltI cq) (3 * nq + 2) ≤ 99) (ht : rwV (ltI cq) (3 * nq + 1) / 10 ≤ t9 ∧ t9 ≤ rwV (ltI cq) (3 * nq + 2) / 10) (hx : bsN cq + (if t9 = rwV (ltI cq) (3 * nq + 1) / 10 then rwV (ltI cq) (3 * nq + 1) % 10 else 0) ≤ xq ∧ xq ≤ bsN cq + (if t9 = rwV (ltI cq) (3 * nq + 2) / 10 then rwV (ltI cq) (3 * nq + 2) % 10 else 9)) : pSt (cq, nq, some t9, false, fz) xq = (true, sqN cq nq fz (10 * t9 + (xq - bsN cq))) := by
  unfold pSt
  dsimp only
  have hu : (if t9 = rwV (ltI cq) (3 * nq + 2) / 10 then rwV (ltI cq) (3 * nq + 2) % 10 else 9) ≤ 9 := by split <;> omega
  rw [if_neg Bool.false_ne_true, if_neg (by omega), if_neg (fun hh => by cases hh.2)]
  have h3 : vlN (some t9) (xq - bsN cq) = 10 * t9 + (xq - bsN cq) := rfl
  rw [h3]
  have h4 : decide (rwV (ltI cq) (3 * nq + 1) ≤ 10 * t9 + (xq - bsN cq) ∧ 10 * t9 + (xq - bsN cq) ≤ rwV (ltI cq) (3 * nq + 2)) = true := decide_eq_true (by
    by_cases e1 : t9 = rwV (ltI cq) (3 * nq + 1) / 10
    · rw [if_pos e1] at hx
      by_cases e2 : t9 = rwV (ltI cq) (3 * nq + 2) / 10
      · rw [if_pos e2] at hx; omega
      · rw [if_neg e2] at hx; omega
    · rw [if_neg e1] at hx
      by_cases e2 : t9 = rwV (ltI cq) (3 * nq + 2) / 10
      · rw [if_pos e2] at hx; omega
      · rw [if_neg e2] at hx; omega)
  rw [h4]
  rfl
theorem pS3F {cq nq xq t9 : Nat} {fz : Nat → Int32} (h9 : hiN cq = 9) (hx : ¬ (bsN cq + (if t9 = rwV (ltI cq) (3 * nq + 1) / 10 then rwV (ltI cq) (3 * nq + 1) % 10 else 0) ≤ xq ∧ xq ≤ bsN cq + (if t9 = rwV (ltI cq) (3 * nq + 2) / 10 then rwV (ltI cq) (3 * nq + 2) % 10 else 9))) : (pSt (cq, nq, some t9, false, fz) xq).1 = false := by
  unfold pSt
  dsimp only
  rw [if_neg Bool.false_ne_true]
  by_cases h2 : xq < bsN cq ∨ bsN cq + hiN cq < xq
  · rw [if_pos h2]
  · rw [if_neg h2, if_neg (fun hh => by cases hh.2)]
    have h3 : vlN (some t9) (xq - bsN cq) = 10 * t9 + (xq - bsN cq) := rfl
    rw [h3]
    refine decide_eq_false ?_
    by_cases e1 : t9 = rwV (ltI cq) (3 * nq + 1) / 10
    · rw [if_pos e1] at hx
      by_cases e2 : t9 = rwV (ltI cq) (3 * nq + 2) / 10
      · rw [if_pos e2] at hx; omega
      · rw [if_neg e2] at hx; omega
    · rw [if_neg e1] at hx
      by_cases e2 : t9 = rwV (ltI cq) (3 * nq + 2) / 10
      · rw [if_pos e2] at hx; omega
      · rw [if_neg e2] at hx; omega
theorem feG_c {cq iq : Nat} {cs : List Nat} {sq : RS} : feG (cq :: cs) iq sq = if (pSt sq cq).1 = true then feG cs (iq + 1) (pSt sq cq).2 else zN iq := rfl
theorem dropC {tx : List Nat} {iq : Nat} (h : iq < tx.length) : tx.drop iq = tx.getD iq 0 :: tx.drop (iq + 1) := by
  rw [List.getD_eq_getElem?_getD, List.getElem?_eq_getElem h, Option.getD_some]
  exact List.drop_eq_getElem_cons h
theorem dropE {tx : List Nat} {iq : Nat} (h : tx.length ≤ iq) : tx.drop iq = [] := List.drop_eq_nil_of_le h
def ldW (fz : Nat → (Nat → Int32) → TA → Int32 × TA) (cs : List Nat) (sq : RS) (kq : Nat) (Aq : TA) : Nat × TA := if sq.2.2.2.1 = true then ldG fz cs sq (if (fz sq.1 sq.2.2.2.2 Aq).1 = zN 0 then kq + 1 else kq) (fz sq.1 sq.2.2.2.2 Aq).2 else ldG fz cs sq kq Aq
theorem ldG_T {fz : Nat → (Nat → Int32) → TA → Int32 × TA} {sq s9 : RS} {kq cq : Nat} {cs : List Nat} {Aq : TA} (h : pSt sq cq = (true, s9)) : ldG fz (cq :: cs) sq kq Aq = ldW fz cs s9 kq Aq := by
  rw [ldG_s, h]
  unfold ldW
  by_cases h2 : s9.2.2.2.1 = true
  · rw [if_pos h2, if_pos ⟨rfl, h2⟩]
  · rw [if_neg h2, if_neg (fun hh => h2 hh.2)]
theorem cNum {fz : Nat → (Nat → Int32) → TA → Int32 × TA} {tx : List Nat} {cq nq iq : Nat} {f9 : Nat → Int32} (hc : ltI cq < 7) (hn : 3 * nq + 2 < rwN (ltI cq)) (hi2 : iq ≤ tx.length) :
    ((rdNum tx cq nq (1, iq)).2.1 = 1 ∧ feG (tx.drop iq) iq (cq, nq, none, false, f9) = feG (tx.drop (rdNum tx cq nq (1, iq)).2.2) (rdNum tx cq nq (1, iq)).2.2 (sqN cq nq f9 (rdNum tx cq nq (1, iq)).1) ∧ ∀ kq Aq, ldG fz (tx.drop iq) (cq, nq, none, false, f9) kq Aq = ldW fz (tx.drop (rdNum tx cq nq (1, iq)).2.2) (sqN cq nq f9 (rdNum tx cq nq (1, iq)).1) kq Aq) ∨
    ((rdNum tx cq nq (1, iq)).2.1 = 0 ∧ feG (tx.drop iq) iq (cq, nq, none, false, f9) = zN (rdNum tx cq nq (1, iq)).2.2) := by
  have hnil : ∀ {t9 : Option Nat} {jq : Nat}, tx.length ≤ jq → feG (tx.drop jq) jq (cq, nq, t9, false, f9) = zN jq := fun {t9 jq} h => by
    rw [dropE h]
    exact if_neg Bool.false_ne_true
  have hbad : ∀ {t9 : Option Nat} {jq : Nat}, jq < tx.length → (pSt (cq, nq, t9, false, f9) (tx.getD jq 0)).1 = false → feG (tx.drop jq) jq (cq, nq, t9, false, f9) = zN jq := fun {t9 jq} h h2 => by
    rw [dropC h, feG_c, h2, if_neg Bool.false_ne_true]
  have hgood : ∀ {t9 : Option Nat} {jq : Nat} {s9 : RS}, jq < tx.length → pSt (cq, nq, t9, false, f9) (tx.getD jq 0) = (true, s9) → feG (tx.drop jq) jq (cq, nq, t9, false, f9) = feG (tx.drop (jq + 1)) (jq + 1) s9 := fun {t9 jq s9} h h2 => by
    rw [dropC h, feG_c, h2, if_pos rfl]
  rcases rfac hc hn with ⟨h1, h2⟩ | ⟨h1, h9, h99, hl⟩
  · have er : rdNum tx cq nq (1, iq) = dgB (bsN cq) (rwV (ltI cq) (3 * nq + 1)) (rwV (ltI cq) (3 * nq + 2)) tx (1, iq) := by unfold rdNum; rw [if_neg (by omega)]
    rw [er]
    by_cases hx : iq < tx.length ∧ bsN cq + rwV (ltI cq) (3 * nq + 1) ≤ tx.getD iq 0 ∧ tx.getD iq 0 ≤ bsN cq + rwV (ltI cq) (3 * nq + 2)
    · rw [dgB_T hx]
      have hp := pS1T (fz := f9) h1 h2 hx.2
      refine Or.inl ⟨rfl, hgood hx.1 hp, fun kq Aq => ?_⟩
      rw [dropC hx.1]
      exact ldG_T hp
    · rw [dgB_F hx]
      refine Or.inr ⟨rfl, ?_⟩
      by_cases h3 : iq < tx.length
      · exact hbad h3 (pS1F h1 (fun hh => hx ⟨h3, hh⟩))
      · exact hnil (by omega)
  · have er : rdNum tx cq nq (1, iq) = dtB (bsN cq) (rwV (ltI cq) (3 * nq + 1)) (rwV (ltI cq) (3 * nq + 2)) tx (1, iq) := by unfold rdNum; rw [if_pos h1]
    rw [er]
    unfold dtB
    by_cases hx : iq < tx.length ∧ bsN cq + rwV (ltI cq) (3 * nq + 1) / 10 ≤ tx.getD iq 0 ∧ tx.getD iq 0 ≤ bsN cq + rwV (ltI cq) (3 * nq + 2) / 10
    · rw [dgB_T hx]
      have hp := pS2T (fz := f9) h1 h9 h99 hx.2
      have hp1 := hgood hx.1 hp
      have hp2 : ∀ kq Aq, ldG fz (tx.drop iq) (cq, nq, none, false, f9) kq Aq = ldG fz (tx.drop (iq + 1)) (cq, nq, some (tx.getD iq 0 - bsN cq), false, f9) kq Aq := fun kq Aq => by
        rw [dropC hx.1, ldG_T hp]
        exact if_neg Bool.false_ne_true
      have ht : rwV (ltI cq) (3 * nq + 1) / 10 ≤ tx.getD iq 0 - bsN cq ∧ tx.getD iq 0 - bsN cq ≤ rwV (ltI cq) (3 * nq + 2) / 10 := by omega
      unfold dg2
      dsimp only
      generalize tx.getD iq 0 - bsN cq = t9 at hp1 hp2 ht ⊢
      by_cases hy : iq + 1 < tx.length ∧ bsN cq + (if t9 = rwV (ltI cq) (3 * nq + 1) / 10 then rwV (ltI cq) (3 * nq + 1) % 10 else 0) ≤ tx.getD (iq + 1) 0 ∧ tx.getD (iq + 1) 0 ≤ bsN cq + (if t9 = rwV (ltI cq) (3 * nq + 2) / 10 then rwV (ltI cq) (3 * nq + 2) % 10 else 9)
      · rw [dgB_T hy]
        have hq := pS3T (fz := f9) h9 hl h99 ht hy.2
        refine Or.inl ⟨rfl, ?_, fun kq Aq => ?_⟩
        · rw [hp1]; exact hgood hy.1 hq
        · rw [hp2, dropC hy.1]; exact ldG_T hq
      · rw [dgB_F hy]
        refine Or.inr ⟨rfl, ?_⟩
        rw [hp1]
        by_cases h3 : iq + 1 < tx.length
        · exact hbad h3 (pS3F h9 (fun hh => hy ⟨h3, hh⟩))
        · exact hnil (by omega)
    · rw [dgB_F hx]
      unfold dg2
      dsimp only
      rw [dgB_bad]
      refine Or.inr ⟨rfl, ?_⟩
      by_cases h3 : iq < tx.length
      · exact hbad h3 (pS2F h1 (fun hh => hx ⟨h3, hh⟩))
      · exact hnil (by omega)
theorem rdNum_bad {tx : List Nat} {cq nq iq : Nat} : (rdNum tx cq nq (0, iq)).2 = (0, iq) := by
  unfold rdNum
  split
  · unfold dtB dg2
    rw [dgB_bad]
    dsimp only
    rw [dgB_bad]
  · rw [dgB_bad]
theorem rdF_bad {tx : List Nat} {cq iq : Nat} : ∀ (mq nq : Nat) (f9 : Nat → Int32), (rdF tx cq mq nq (0, iq) f9).1 = (0, iq) := by
  intro mq
  induction mq with
  | zero => intro nq f9; rfl
  | succ mq ih => intro nq f9; rw [rdF_s, rdNum_bad]; exact ih _ _
theorem cF {fz : Nat → (Nat → Int32) → TA → Int32 × TA} {tx : List Nat} {cq : Nat} (hc : ltI cq < 7) : ∀ (mq nq iq : Nat) (f9 : Nat → Int32), 3 * (nq + (mq + 1)) = rwN (ltI cq) → iq ≤ tx.length →
    ((rdF tx cq (mq + 1) nq (1, iq) f9).1.1 = 1 ∧ ∃ s9 : RS, s9.2.2.2.1 = true ∧ feG (tx.drop iq) iq (cq, nq, none, false, f9) = feG (tx.drop (rdF tx cq (mq + 1) nq (1, iq) f9).1.2) (rdF tx cq (mq + 1) nq (1, iq) f9).1.2 s9 ∧ ∀ kq Aq, ldG fz (tx.drop iq) (cq, nq, none, false, f9) kq Aq = ldG fz (tx.drop (rdF tx cq (mq + 1) nq (1, iq) f9).1.2) s9 (if (fz cq (rdF tx cq (mq + 1) nq (1, iq) f9).2 Aq).1 = zN 0 then kq + 1 else kq) (fz cq (rdF tx cq (mq + 1) nq (1, iq) f9).2 Aq).2) ∨
    ((rdF tx cq (mq + 1) nq (1, iq) f9).1.1 = 0 ∧ feG (tx.drop iq) iq (cq, nq, none, false, f9) = zN (rdF tx cq (mq + 1) nq (1, iq) f9).1.2) := by
  intro mq
  induction mq with
  | zero =>
    intro nq iq f9 h1 h2
    have h3 := @cNum fz tx cq nq iq f9 hc (by omega) h2
    rw [rdF_1]
    dsimp only
    rcases h3 with ⟨a1, a2, a3⟩ | ⟨a1, a2⟩
    · refine Or.inl ⟨a1, _, ?_, a2, fun kq Aq => ?_⟩
      · exact decide_eq_true (by omega)
      · rw [a3]
        exact if_pos (decide_eq_true (by omega))
    · exact Or.inr ⟨a1, a2⟩
  | succ mq ih =>
    intro nq iq f9 h1 h2
    have h3 := @cNum fz tx cq nq iq f9 hc (by omega) h2
    have h5 := @rdNum_ge tx cq nq (1, iq) (Nat.le_refl _) h2
    rw [rdF_s]
    rcases h3 with ⟨a1, a2, a3⟩ | ⟨a1, a2⟩
    · generalize rdNum tx cq nq (1, iq) = rq at a1 a2 a3 h5 ⊢
      obtain ⟨v1, b1, i1⟩ := rq
      dsimp only at a1 a2 a3 h5 ⊢
      subst a1
      have hs : sqN cq nq f9 v1 = (cq, nq + 1, none, false, upd f9 nq (zN v1)) := by
        unfold sqN
        rw [decide_eq_false (by omega)]
      rw [hs] at a2 a3
      have h6 := ih (nq + 1) i1 (upd f9 nq (zN v1)) (by omega) h5.2.2
      rw [a2]
      rcases h6 with ⟨c1, s9, c2, c3, c4⟩ | ⟨c1, c2⟩
      · refine Or.inl ⟨c1, s9, c2, c3, fun kq Aq => ?_⟩
        rw [a3]
        exact (if_neg Bool.false_ne_true).trans (c4 kq Aq)
      · exact Or.inr ⟨c1, c2⟩
    · generalize rdNum tx cq nq (1, iq) = rq at a1 a2 h5 ⊢
      obtain ⟨v1, b1, i1⟩ := rq
      dsimp only at a1 a2 h5 ⊢
      subst a1
      rw [rdF_bad]
      exact Or.inr ⟨rfl, a2⟩
theorem cL {tx : List Nat} (hx : ∀ cq ∈ tx, cq ≤ 255) : ∀ (nq iq kq : Nat) (Aq : TA), iq ≤ tx.length → tx.length - iq < nq →
    ((rdL carry tx nq iq kq Aq).1.1 = 1 ∧ feG (tx.drop iq) iq sR0 = zM ∧ ldG carry (tx.drop iq) sR0 kq Aq = (rdL carry tx nq iq kq Aq).2) ∨
    ((rdL carry tx nq iq kq Aq).1.1 = 0 ∧ feG (tx.drop iq) iq sR0 = zN (rdL carry tx nq iq kq Aq).1.2 ∧ (rdL carry tx nq iq kq Aq).1.2 ≤ tx.length) := by
  intro nq
  induction nq with
  | zero => intro iq kq Aq h1 h2; omega
  | succ nq ih =>
    intro iq kq Aq h1 h2
    rw [rdL_s]
    by_cases h3 : iq < tx.length
    · rw [if_pos h3, dropC h3, feG_c]
      by_cases h7 : ltI (tx.getD iq 0) = 7
      · rw [if_pos h7]
        refine Or.inr ⟨rfl, ?_, h1⟩
        have hp : (pSt sR0 (tx.getD iq 0)).1 = false := by
          unfold pSt sR0
          dsimp only
          rw [if_pos rfl, if_pos h7]
        rw [hp, if_neg Bool.false_ne_true]
      · rw [if_neg h7]
        have h8 : ltI (tx.getD iq 0) < 7 := by have := @ltI_le (tx.getD iq 0); omega
        generalize hcc : tx.getD iq 0 = cz at h7 h8 ⊢
        have hp : pSt sR0 cz = (true, (cz, 0, none, false, fun _ => 0)) := by
          unfold pSt sR0
          dsimp only
          rw [if_pos rfl, if_neg h7]
        have h12 := rwN_2 h8
        have h33 := @rwN_3 (ltI cz)
        obtain ⟨m9, hm⟩ : ∃ m9, rwN (ltI cz) / 3 = m9 + 1 := ⟨rwN (ltI cz) / 3 - 1, by omega⟩
        have hF := @cF carry tx cz h8 m9 0 (iq + 1) (fun _ => 0) (by omega) (by omega)
        have hge := @rdF_ge tx cz (m9 + 1) 0 (1, iq + 1) (fun _ => 0) (Nat.le_refl _) (by show iq + 1 ≤ tx.length; omega)
        unfold rdC
        rw [hm, hp, if_pos rfl, ldG_T hp]
        have hw : ldW carry (tx.drop (iq + 1)) (cz, 0, none, false, fun _ => 0) kq Aq = ldG carry (tx.drop (iq + 1)) (cz, 0, none, false, fun _ => 0) kq Aq := if_neg Bool.false_ne_true
        rw [hw]
        dsimp only
        generalize rdF tx cz (m9 + 1) 0 (1, iq + 1) (fun _ => 0) = rq at hF hge ⊢
        obtain ⟨⟨b1, i1⟩, fn⟩ := rq
        dsimp only at hF hge ⊢
        rcases hF with ⟨c1, s9, c2, c3, c4⟩ | ⟨c1, c2⟩
        · subst c1
          rw [rdE_T]
          dsimp only
          rw [if_pos rfl, c3, feG_w c2, c4, ldG_w c2 (fun c9 h9 => hx c9 (List.mem_of_mem_drop h9))]
          exact ih i1 _ _ hge.2.2 (by omega)
        · subst c1
          rw [rdE_F]
          dsimp only
          rw [if_neg (show ¬ ((0 : Nat) = 1) by decide), c2]
          exact Or.inr ⟨rfl, rfl, hge.2.2⟩
    · rw [if_neg h3, dropE (by omega)]
      exact Or.inl ⟨rfl, rfl, rfl⟩
theorem rdA_eq {tx : List Nat} (hx : ∀ cq ∈ tx, cq ≤ 255) (hl : tx.length ≤ 120) : ((rdA carry tx).1.1 = 1 ∧ fErr tx = zM ∧ ldG carry tx.tail sR0 0 tNew = (rdA carry tx).2) ∨ ((rdA carry tx).1.1 = 0 ∧ fErr tx = zN (rdA carry tx).1.2 ∧ ¬ fErr tx = zM) := by
  unfold rdA
  cases tx with
  | nil =>
    rw [if_neg (fun hh => by have := hh.1; exact absurd this (by decide))]
    exact Or.inr ⟨rfl, rfl, by decide⟩
  | cons c9 cs =>
    have h0 : 0 < (c9 :: cs).length := by rw [List.length_cons]; omega
    have hg : (c9 :: cs).getD 0 0 = c9 := rfl
    rw [hg]
    by_cases h1 : c9 = 87
    · rw [if_pos ⟨h0, h1⟩]
      have hf : fErr (c9 :: cs) = feG cs 1 sR0 := if_pos h1
      have hd : (c9 :: cs).drop 1 = cs := rfl
      have h2 := @cL (c9 :: cs) hx ((c9 :: cs).length + 1) 1 0 tNew (by omega) (by omega)
      rw [hd] at h2
      rw [hf]
      rcases h2 with ⟨a1, a2, a3⟩ | ⟨a1, a2, a3⟩
      · exact Or.inl ⟨a1, a2, a3⟩
      · refine Or.inr ⟨a1, a2, ?_⟩
        rw [a2, zN_nm (by omega)]
        exact fun hh => hh
    · rw [if_neg (fun hh => h1 hh.2)]
      have hf : fErr (c9 :: cs) = zN 0 := if_neg h1
      exact Or.inr ⟨rfl, hf, by rw [hf]; decide⟩
section QA
variable {so : Nat → Nat} {g : pwG} {bq : Nat} {w : pwW} {Fq : FS} {pq kq rq tq uq vq : Int32} {Aq Bq : TA} {sc s1 : Nat → Int32} {Rq R1 : Nat → Nat → Int32} {fq hq : Nat → Int32} {iq bz nz lo hi : Nat} {tx : List Nat}
theorem n_readE (hR : modR sc Rq Fq) : ∃ (R1 : Nat → Nat → Int32) (p9 b9 : Nat), modR sc R1 Fq ∧ pwX so 184 0 [some (.ref bq)] [] g (mkM bq sc Rq w) = some (.inl (some (.int (fErr Fq.1))), g, (mkM bq (rdS sc p9 b9 (rdA carry Fq.1).2.1) R1 w)) ∧ (fErr Fq.1 = zM → (rdA carry Fq.1).2 = ldG carry Fq.1.tail sR0 0 tNew ∧ invT (rdA carry Fq.1).2.2 ∧ repM (rdA carry Fq.1).2.2 (R1 3)) := by
  obtain ⟨R1, a1, a2⟩ := n_readAll (so := so) (g := g) (bq := bq) (w := w) hR
  obtain ⟨-, -, -, t1, t2, t3, t4⟩ := hR
  rcases rdA_eq t3 t2 with ⟨b1, b2, b3⟩ | ⟨b1, b2, b3⟩
  · rw [b1, if_pos rfl, ← b2] at a2
    exact ⟨R1, _, _, a1.1, a2, fun _ => ⟨b3.symm, a1.2.1, a1.2.2⟩⟩
  · rw [b1, if_neg (show ¬ ((0 : Nat) = 1) by decide), ← b2] at a2
    exact ⟨R1, _, _, a1.1, a2, fun hh => absurd hh b3⟩
theorem y_err (hR : modR sc Rq Fq) : ∃ s1 R1, modR s1 R1 Fq ∧ s1 0 = zN (fErrP Fq).1 ∧ pwX so 185 0 [some (.ref bq)] [] g (mkM bq sc Rq w) = some (.inl (some (.int ((fErrP Fq).2))), g, (mkM bq s1 R1 w)) := by
  obtain ⟨R1, p9, b9, a1, a2, -⟩ := n_readE (so := so) (g := g) (bq := bq) (w := w) (modR_0 (pq := zN 0) hR)
  refine ⟨rdS (upd sc 0 (zN 0)) p9 b9 (rdA carry Fq.1).2.1, R1, modR_c a1 rfl rfl (fun _ _ => rfl), rfl, ?_⟩
  unfold fErrP
  dsimp only
  simp (disch := omega) only [s_X8_errorPosition_0, s_X8_errorPosition_1, s_X8_errorPosition_2, s_X8_errorPosition_5, s_X8_errorPosition_6, s_X8_errorPosition_9, ↓mg0, ↓mg1, ↓mg2, ↓mg3, ↓mg4, ↓mg5, ↓mg6, ↓mg7, ↓mg8, ↓mg9, ↓mg10, ↓mg11, ↓mg12, ↓mg13, ↓mg14, ↓mp0, ↓mp5, ↓mp11, ↓mp12, ↓mp13, ↓mp14, ↓ml1, ↓ml2, ↓ml3, ↓ml4, ↓ml5, ↓ml7, ↓ml8, ↓ml9, ↓mlr, ↓mt1, ↓mt2, ↓mt3, ↓mt4, ↓mt5, ↓mt7, ↓mt8, ↓mt9, ↓mlz, ↓mtz, mm_i, cond_true, cond_false, qAv, qAn, qV_vv, qV_s, qV_n, qU_s, qU_n, zN_neg1, nL0, nL1, nL2, nL3, nL4, nL5, nL6, nL7, nL8, nL9, nL10, nL11, nL12, nL13, nL14, nL20, nL21, nL22, nL23, nL25, nL32, nL33, nL39, nL40, nL43, nL44, nL99, nL100, nL120, nL216, nL217, nL218, nL219, nL220, nL221, nL500, nL999, nL1000, nL10000, nL100000, sh33, zN_lt, zN_le, zN_eq, zN_ge0, zN_lt0, zN_nm, zN_mn, zN_mlt, zN_ltm, zN_lem, zN_mle, zN_m1, zN_m2, zN_addm, zN_ofNat, zN_beq, zN_add, zN_sub, zN_mul, zN_rem, qT_lt, qF_lt, qT_le, qF_le, qT_eq, qF_eq, ↓reduceIte, and_true, true_and, false_and, and_false, not_true_eq_false, not_false_eq_true, decide_true, decide_false, Bool.true_or, Bool.or_true, Bool.false_or, Bool.or_false, cond_true, cond_false, a2, Option.bind_some]
theorem y_load (hR : modR sc Rq Fq) : ∃ s1 R1, modR s1 R1 (fLoad Fq).2 ∧ s1 0 = zN (fLoad Fq).1.1 ∧ pwX so 186 0 [some (.ref bq)] [] g (mkM bq sc Rq w) = some (.inl (some (.int ((fLoad Fq).1.2))), g, (mkM bq s1 R1 w)) := by
  obtain ⟨R1, p9, b9, a1, a2, a3⟩ := n_readE (so := so) (g := g) (bq := bq) (w := w) hR
  have hR0 : modR (rdS sc p9 b9 (rdA carry Fq.1).2.1) R1 Fq := modR_c a1 rfl rfl (fun _ _ => rfl)
  unfold fLoad
  by_cases h1 : fErr Fq.1 = zM
  · rw [if_pos h1]
    obtain ⟨b1, b2, b3⟩ := a3 h1
    rw [h1] at a2
    rw [← b1]
    dsimp only
    generalize rdA carry Fq.1 = r9 at *
    obtain ⟨st9, k9, A9⟩ := r9
    dsimp only at a2 b2 b3 hR0 ⊢
    obtain ⟨f2, c1, c2⟩ := n_copy (so := so) (g := g) (bq := bq) (sc := upd (rdS sc p9 b9 k9) 0 (zN 0)) (Rq := R1) (w := w) (jr := 3) (j2 := 1) (Aq := A9) (by decide) (by decide) (by decide) (by decide) (by decide) b2 b3
    have hv : (zN 0 = zN 0 ∨ zN 0 = zN 1) := Or.inl rfl
    have mz : ∀ {sq : Nat → Int32} {Rz : Nat → Nat → Int32} {jq : Nat} {hz : pwW → Option pwO}, jq < 2 → (pwStZ (mkM bq sq Rz w) (bq + 6) (zN jq) (zN 0)).bind hz = hz (mkM bq sq (va_up Rz 6 (upd (Rz 6) jq (zN 0))) w) := fun hj => mtz hj hv
    have e14 : rdS sc p9 b9 k9 14 = zN k9 := rfl
    refine ⟨upd (upd (rdS sc p9 b9 k9) 0 (zN 0)) 5 (zN 0), va_up (va_up R1 1 f2) 6 (upd (upd (R1 6) 0 (zN 0)) 1 (zN 0)), ?_, rfl, ?_⟩
    · have h9 := modR_now hR0 b2 c1
      obtain ⟨d1, d2, d3, d4⟩ := h9
      unfold modR
      dsimp only
      rw [qV_n (show (1 : Nat) ≠ 6 by decide), qV_n (show (4 : Nat) ≠ 6 by decide), qV_n (show (5 : Nat) ≠ 6 by decide), qV_n (show (9 : Nat) ≠ 6 by decide), qV_s]
      refine ⟨d1, ⟨rfl, Nat.zero_le _, fun iq A8 h8 => by cases h8⟩, fun iq hi => ⟨fun _ => ?_, fun A8 h8 => by cases h8⟩, d4⟩
      have hc : iq = 0 ∨ iq = 1 := by omega
      rcases hc with rfl | rfl
      · rfl
      · rfl
    · simp (disch := omega) only [s_X8_load_0, s_X8_load_1, s_X8_load_2, s_X8_load_5, s_X8_load_6, s_X8_load_9, s_X8_load_10, s_X8_load_13, s_X8_load_14, s_X8_load_17, s_X8_load_20, s_X8_load_21, s_X8_load_22, s_X8_load_23, s_X8_load_26, s_X8_load_27, s_X8_load_30, s_X8_load_33, s_X8_load_34, s_X8_load_35, s_X8_load_38, s_X8_load_39, s_X8_load_42, s_X8_load_43, s_X8_load_44, s_X8_load_45, s_X8_load_46, s_X8_load_49, s_X8_load_50, s_X8_load_51, s_X8_load_52, s_X8_load_53, s_X8_load_56, s_X8_refused_0, s_X8_refused_1, s_X8_refused_2, s_X8_refused_5, s_X8_refused_6, s_X8_refused_9, s_X8_refused_10, s_X8_refused_13, s_X8_refused_14, ↓mg0, ↓mg1, ↓mg2, ↓mg3, ↓mg4, ↓mg5, ↓mg6, ↓mg7, ↓mg8, ↓mg9, ↓mg10, ↓mg11, ↓mg12, ↓mg13, ↓mg14, ↓mp0, ↓mp5, ↓mp11, ↓mp12, ↓mp13, ↓mp14, ↓ml1, ↓ml2, ↓ml3, ↓ml4, ↓ml5, ↓ml7, ↓ml8, ↓ml9, ↓mlr, ↓mt1, ↓mt2, ↓mt3, ↓mt4, ↓mt5, ↓mt7, ↓mt8, ↓mt9, ↓mlz, ↓mtz, mm_i, cond_true, cond_false, qAv, qAn, qV_vv, qV_s, qV_n, qU_s, qU_n, zN_neg1, nL0, nL1, nL2, nL3, nL4, nL5, nL6, nL7, nL8, nL9, nL10, nL11, nL12, nL13, nL14, nL20, nL21, nL22, nL23, nL25, nL32, nL33, nL39, nL40, nL43, nL44, nL99, nL100, nL120, nL216, nL217, nL218, nL219, nL220, nL221, nL500, nL999, nL1000, nL10000, nL100000, sh33, zN_lt, zN_le, zN_eq, zN_ge0, zN_lt0, zN_nm, zN_mn, zN_mlt, zN_ltm, zN_lem, zN_mle, zN_m1, zN_m2, zN_addm, zN_ofNat, zN_beq, zN_add, zN_sub, zN_mul, zN_rem, qT_lt, qF_lt, qT_le, qF_le, qT_eq, qF_eq, ↓reduceIte, and_true, true_and, false_and, and_false, not_true_eq_false, not_false_eq_true, decide_true, decide_false, Bool.true_or, Bool.or_true, Bool.false_or, Bool.or_false, cond_true, cond_false, qbi, qb1, qb0, a2, c2, ↓mz, e14, Option.bind_some]
  · rw [if_neg h1]
    dsimp only
    refine ⟨upd (rdS sc p9 b9 (rdA carry Fq.1).2.1) 0 (zN 1), R1, modR_0 hR0, rfl, ?_⟩
    have h2 : (fErr Fq.1 = zM) = False := eq_false h1
    simp (disch := omega) only [s_X8_load_0, s_X8_load_1, s_X8_load_2, s_X8_load_5, s_X8_load_6, s_X8_load_9, s_X8_load_10, s_X8_load_13, s_X8_load_14, s_X8_load_17, s_X8_load_20, s_X8_load_21, s_X8_load_22, s_X8_load_23, s_X8_load_26, s_X8_load_27, s_X8_load_30, s_X8_load_33, s_X8_load_34, s_X8_load_35, s_X8_load_38, s_X8_load_39, s_X8_load_42, s_X8_load_43, s_X8_load_44, s_X8_load_45, s_X8_load_46, s_X8_load_49, s_X8_load_50, s_X8_load_51, s_X8_load_52, s_X8_load_53, s_X8_load_56, s_X8_refused_0, s_X8_refused_1, s_X8_refused_2, s_X8_refused_5, s_X8_refused_6, s_X8_refused_9, s_X8_refused_10, s_X8_refused_13, s_X8_refused_14, ↓mg0, ↓mg1, ↓mg2, ↓mg3, ↓mg4, ↓mg5, ↓mg6, ↓mg7, ↓mg8, ↓mg9, ↓mg10, ↓mg11, ↓mg12, ↓mg13, ↓mg14, ↓mp0, ↓mp5, ↓mp11, ↓mp12, ↓mp13, ↓mp14, ↓ml1, ↓ml2, ↓ml3, ↓ml4, ↓ml5, ↓ml7, ↓ml8, ↓ml9, ↓mlr, ↓mt1, ↓mt2, ↓mt3, ↓mt4, ↓mt5, ↓mt7, ↓mt8, ↓mt9, ↓mlz, ↓mtz, mm_i, cond_true, cond_false, qAv, qAn, qV_vv, qV_s, qV_n, qU_s, qU_n, zN_neg1, nL0, nL1, nL2, nL3, nL4, nL5, nL6, nL7, nL8, nL9, nL10, nL11, nL12, nL13, nL14, nL20, nL21, nL22, nL23, nL25, nL32, nL33, nL39, nL40, nL43, nL44, nL99, nL100, nL120, nL216, nL217, nL218, nL219, nL220, nL221, nL500, nL999, nL1000, nL10000, nL100000, sh33, zN_lt, zN_le, zN_eq, zN_ge0, zN_lt0, zN_nm, zN_mn, zN_mlt, zN_ltm, zN_lem, zN_mle, zN_m1, zN_m2, zN_addm, zN_ofNat, zN_beq, zN_add, zN_sub, zN_mul, zN_rem, qT_lt, qF_lt, qT_le, qF_le, qT_eq, qF_eq, ↓reduceIte, and_true, true_and, false_and, and_false, not_true_eq_false, not_false_eq_true, decide_true, decide_false, Bool.true_or, Bool.or_true, Bool.false_or, Bool.or_false, cond_true, cond_false, qbi, qb1, qb0, a2, h2, Option.bind_some]
end QA
