/-! the pure part: the class as a whole: its 280 cells stand for a text, a town, remembered towns and two slots -/
abbrev FS : Type := List Nat × TA × List TA × (Nat → Option TA)
def tAny (bq : Nat) (w : pwW) : Prop := ∃ xq sc Rq, w = mkT bq xq sc Rq w
def tA (bq : Nat) (Aq : TA) (w : pwW) : Prop := invT Aq ∧ ∃ xq sc Rq, repT Aq xq sc Rq ∧ w = mkT bq xq sc Rq w
def textW (xx : Nat) (tx : List Nat) (w : pwW) : Prop := tx.length ≤ 120 ∧ (∀ cq ∈ tx, cq ≤ 255) ∧ ∃ cm nx tn wh fs fn, w (xx + 1) = .inr (5, [.int (zN tx.length), .ref (xx + 2), .ref (xx + 3), .int cm, .int nx, .int tn, .int wh]) ∧ (wh = zN 0 ∨ wh = zN 1) ∧ w (xx + 2) = .inl (0, 120, .inl fs) ∧ lsM 0 tx fs ∧ w (xx + 3) = .inl (0, 4, .inl fn)
def histW (xx : Nat) (hs : List TA) (w : pwW) : Prop := hs.length ≤ 14 ∧ ∃ nx, nx < 14 ∧ w (xx + 36) = .inr (0, [.int (zN hs.length), .ref (xx + 37), .int (zN nx)]) ∧ (∃ fz : Nat → Option Nat, w (xx + 37) = .inl (3, 14, .inr (.inr (.inr (.inr fz)))) ∧ ∀ iq, iq < 14 → fz iq = some (xx + 38 + 15 * iq)) ∧ (∀ iq, iq < 14 → tAny (xx + 38 + 15 * iq) w) ∧ ∀ iq Aq, hs[iq]? = some Aq → tA (xx + 38 + 15 * ((nx + 14 - hs.length + iq) % 14)) Aq w
def slotW (bq : Nat) (sl : Option TA) (w : pwW) : Prop := ∃ fl, w bq = .inr (2, [.ref (bq + 1), .int fl]) ∧ tAny (bq + 1) w ∧ match sl with
  | none => fl = zN 0
  | some Aq => fl = zN 1 ∧ tA (bq + 1) Aq w
def clsW (xx : Nat) (Fq : FS) (w : pwW) : Prop :=
  w xx = .inr (6, [.ref (xx + 1), .ref (xx + 4), .ref (xx + 19), .ref (xx + 34), .ref (xx + 36), .ref (xx + 248), .ref (xx + 264)]) ∧ tA (xx + 4) Fq.2.1 w ∧ tAny (xx + 19) w ∧ (w (xx + 34) = .inr (1, [.ref (xx + 35)]) ∧ ∃ fr, w (xx + 35) = .inl (0, 10, .inl fr)) ∧ textW xx Fq.1 w ∧ histW xx Fq.2.2.1 w ∧ slotW (xx + 248) (Fq.2.2.2 0) w ∧ slotW (xx + 264) (Fq.2.2.2 1) w
section QW
variable {bq xx : Nat} {Aq : TA} {w w1 : pwW} {xq : Int64} {sc : Nat → Int32} {Rq : Nat → Nat → Int32}
theorem mkT_congr (h : ∀ aq, bq ≤ aq → aq < bq + 15 → w1 aq = w aq) (hw : w = mkT bq xq sc Rq w) : w1 = mkT bq xq sc Rq w1 := by
  funext aq
  by_cases h1 : bq ≤ aq ∧ aq < bq + 15
  · rw [h aq h1.1 h1.2]
    have h2 := congrFun hw aq
    rw [h2]
    unfold mkT
    split
    · rfl
    · split
      · rfl
      · rw [if_pos (by omega), if_pos (by omega)]
  · rw [mkT_o (by omega)]
theorem mkT_idem : mkT bq xq sc Rq w = mkT bq xq sc Rq (mkT bq xq sc Rq w) := by
  funext aq
  unfold mkT
  split
  · rfl
  · split
    · rfl
    · split
      · rfl
      · rfl
theorem tA_any (h : tA bq Aq w) : tAny bq w := by
  obtain ⟨-, xq, sc, Rq, -, h⟩ := h
  exact ⟨xq, sc, Rq, h⟩
theorem tAny_fr (hf : ∀ aq, bq ≤ aq → aq < bq + 15 → w1 aq = w aq) (h : tAny bq w) : tAny bq w1 := by
  obtain ⟨xq, sc, Rq, h⟩ := h
  exact ⟨xq, sc, Rq, mkT_congr hf h⟩
theorem tA_fr (hf : ∀ aq, bq ≤ aq → aq < bq + 15 → w1 aq = w aq) (h : tA bq Aq w) : tA bq Aq w1 := by
  obtain ⟨hi, xq, sc, Rq, hr, h⟩ := h
  exact ⟨hi, xq, sc, Rq, hr, mkT_congr hf h⟩
theorem tA_mk (hi : invT Aq) (hr : repT Aq xq sc Rq) : tA bq Aq (mkT bq xq sc Rq w) := ⟨hi, xq, sc, Rq, hr, mkT_idem⟩
theorem tAny_mk : tAny bq (mkT bq xq sc Rq w) := ⟨xq, sc, Rq, mkT_idem⟩
theorem textW_fr {tx : List Nat} (hf : ∀ aq, xx + 1 ≤ aq → aq < xx + 4 → w1 aq = w aq) (h : textW xx tx w) : textW xx tx w1 := by
  obtain ⟨h1, h2, cm, nx, tn, wh, fs, fn, h3, h4, h5, h6, h7⟩ := h
  exact ⟨h1, h2, cm, nx, tn, wh, fs, fn, by rw [hf _ (by omega) (by omega)]; exact h3, h4, by rw [hf _ (by omega) (by omega)]; exact h5, h6, by rw [hf _ (by omega) (by omega)]; exact h7⟩
theorem histW_fr {hs : List TA} (hf : ∀ aq, xx + 36 ≤ aq → aq < xx + 248 → w1 aq = w aq) (h : histW xx hs w) : histW xx hs w1 := by
  obtain ⟨h1, nx, h2, h3, ⟨fz, h4, h5⟩, h6, h7⟩ := h
  refine ⟨h1, nx, h2, by rw [hf _ (by omega) (by omega)]; exact h3, ⟨fz, by rw [hf _ (by omega) (by omega)]; exact h4, h5⟩, fun iq hi => tAny_fr (fun aq a c => hf aq (by omega) (by omega)) (h6 iq hi), fun iq Aq hh => ?_⟩
  have hm : (nx + 14 - hs.length + iq) % 14 < 14 := Nat.mod_lt _ (by decide)
  exact tA_fr (fun aq a c => hf aq (by omega) (by omega)) (h7 iq Aq hh)
theorem slotW_fr {sl : Option TA} (hf : ∀ aq, bq ≤ aq → aq < bq + 16 → w1 aq = w aq) (h : slotW bq sl w) : slotW bq sl w1 := by
  obtain ⟨fl, h1, h2, h3⟩ := h
  refine ⟨fl, by rw [hf _ (by omega) (by omega)]; exact h1, tAny_fr (fun aq a c => hf aq (by omega) (by omega)) h2, ?_⟩
  cases sl with
  | none => exact h3
  | some Aq => exact ⟨h3.1, tA_fr (fun aq a c => hf aq (by omega) (by omega)) h3.2⟩
/-- the town alone has changed -/
theorem cls_town {Fq : FS} (h : clsW xx Fq w) (hi : invT Aq) (hr : repT Aq xq sc Rq) : clsW xx (Fq.1, Aq, Fq.2.2) (mkT (xx + 4) xq sc Rq w) := by
  obtain ⟨h1, h2, h3, ⟨h4, fr, h5⟩, h6, h7, h8, h9⟩ := h
  have ho : ∀ aq, (aq < xx + 4 ∨ xx + 19 ≤ aq) → mkT (xx + 4) xq sc Rq w aq = w aq := fun aq ha => mkT_o (by omega)
  exact ⟨by rw [ho _ (by omega)]; exact h1, tA_mk hi hr, tAny_fr (fun aq a c => ho aq (by omega)) h3, ⟨by rw [ho _ (by omega)]; exact h4, fr, by rw [ho _ (by omega)]; exact h5⟩, textW_fr (fun aq a c => ho aq (by omega)) h6, histW_fr (fun aq a c => ho aq (by omega)) h7, slotW_fr (fun aq a c => ho aq (by omega)) h8, slotW_fr (fun aq a c => ho aq (by omega)) h9⟩
/-- the trial town alone has changed -/
theorem cls_trial {Fq : FS} (h : clsW xx Fq w) : clsW xx Fq (mkT (xx + 19) xq sc Rq w) := by
  obtain ⟨h1, h2, h3, ⟨h4, fr, h5⟩, h6, h7, h8, h9⟩ := h
  have ho : ∀ aq, (aq < xx + 19 ∨ xx + 34 ≤ aq) → mkT (xx + 19) xq sc Rq w aq = w aq := fun aq ha => mkT_o (by omega)
  exact ⟨by rw [ho _ (by omega)]; exact h1, tA_fr (fun aq a c => ho aq (by omega)) h2, tAny_mk, ⟨by rw [ho _ (by omega)]; exact h4, fr, by rw [ho _ (by omega)]; exact h5⟩, textW_fr (fun aq a c => ho aq (by omega)) h6, histW_fr (fun aq a c => ho aq (by omega)) h7, slotW_fr (fun aq a c => ho aq (by omega)) h8, slotW_fr (fun aq a c => ho aq (by omega)) h9⟩
/-- the row of rises alone has changed -/
theorem cls_rise {Fq : FS} {f1 : Nat → Int32} (h : clsW xx Fq w) : clsW xx Fq (mkA (xx + 35) 10 f1 w) := by
  obtain ⟨h1, h2, h3, ⟨h4, fr, h5⟩, h6, h7, h8, h9⟩ := h
  have ho : ∀ aq, aq ≠ xx + 35 → mkA (xx + 35) 10 f1 w aq = w aq := fun aq ha => mkA_o ha
  exact ⟨by rw [ho _ (by omega)]; exact h1, tA_fr (fun aq a c => ho aq (by omega)) h2, tAny_fr (fun aq a c => ho aq (by omega)) h3, ⟨by rw [ho _ (by omega)]; exact h4, f1, mkA_s⟩, textW_fr (fun aq a c => ho aq (by omega)) h6, histW_fr (fun aq a c => ho aq (by omega)) h7, slotW_fr (fun aq a c => ho aq (by omega)) h8, slotW_fr (fun aq a c => ho aq (by omega)) h9⟩
theorem cg {ci kk : Nat} {vs : List Value} {aq : Nat} (h : w aq = .inr (ci, vs)) : pwGet w aq ci kk = vs[kk]? := by
  unfold pwGet; rw [h]
  have : Nat.beq ci ci = true := Nat.beq_refl ci
  dsimp only; rw [this]; rfl
theorem ci_ {ci : Nat} {vs : List Value} {aq : Nat} (h : w aq = .inr (ci, vs)) : pwIsC w aq ci = true := by
  unfold pwIsC; rw [h]; exact Nat.beq_refl ci
end QW
def thr (g : pwG) : pwG := (g.1, g.2.1 + 1, g.2.2.1 + 1, g.2.2.2 + 6)
/-- an answer of the class: code 0 and a value, or an exception told by the code -/
def oC (ez : Nat → Nat) (rq : Nat × Int32) (g : pwG) (w : pwW) : pwO := if rq.1 = 0 then (.inl (some (.int rq.2)), g, w) else (.inr (ez rq.1), thr g, w)
theorem oC_0 {ez : Nat → Nat} {vq : Int32} {g : pwG} {w : pwW} : oC ez (0, vq) g w = (.inl (some (.int vq)), g, w) := rfl
theorem oC_s {ez : Nat → Nat} {kq : Nat} {vq : Int32} {g : pwG} {w : pwW} : oC ez (kq + 1, vq) g w = (.inr (ez (kq + 1)), thr g, w) := rfl
def un (pq : Int32) : Nat := pq.toInt.toNat
theorem un_ex {pq : Int32} (h : 0 ≤ pq.toInt) : ∃ nq, pq = zN nq ∧ (nq : Int) = pq.toInt ∧ nq < 2147483648 ∧ un pq = nq := by
  have h2 := pq.toInt_lt
  refine ⟨pq.toInt.toNat, ?_, by omega, by omega, rfl⟩
  apply Int32.toInt_inj.mp
  rw [zN_toInt (by omega)]; omega
theorem un_zN {nq : Nat} (h : nq < 2147483648) : un (zN nq) = nq := by unfold un; rw [zN_toInt h]; rfl
theorem iT_eq {xq yq : Int} (h : xq = yq) : (xq = yq) = True := eq_true h
theorem iF_eq {xq yq : Int} (h : xq < yq ∨ yq < xq) : (xq = yq) = False := eq_false (by omega)
