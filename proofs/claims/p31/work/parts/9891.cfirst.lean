/-! the pure part: the class reads a text: the error's place -/
def feG : List Nat → Nat → RS → Int32
  | [], iq, sq => if sq.2.2.2.1 = true then zM else zN iq
  | cq :: cs, iq, sq => if (pSt sq cq).1 = true then feG cs (iq + 1) (pSt sq cq).2 else zN iq
def sR0 : RS := (0, 0, none, true, fun _ => 0)
def fErr (tx : List Nat) : Int32 := match tx with
  | [] => zN 0
  | cq :: cs => if cq = 87 then feG cs 1 sR0 else zN 0
theorem zN_ex (xq : Int32) : ∃ kq : Nat, xq = zN kq := by
  refine ⟨xq.toBitVec.toNat, ?_⟩
  apply Int32.toBitVec_inj.mp
  unfold zN
  first
  | (rw [Int32.toBitVec_ofNat']; simp)
  | (rw [Int32.toBitVec_ofNat]; simp)
  | simp
theorem oT_ex (xq : Int32) : ∃ tq : Option Nat, xq = oT tq := by
  obtain ⟨k9, h⟩ := zN_ex xq
  exact ⟨some k9, h⟩
theorem feG_f : ∀ (cs : List Nat) (iq c9 n9 : Nat) (t9 : Option Nat) (w9 : Bool) (f8 f9 : Nat → Int32), feG cs iq (c9, n9, t9, w9, f8) = feG cs iq (c9, n9, t9, w9, f9) := by
  intro cs
  induction cs with
  | nil => intro iq c9 n9 t9 w9 f8 f9; rfl
  | cons cq cs ih =>
    intro iq c9 n9 t9 w9 f8 f9
    unfold feG pSt
    dsimp only
    split
    · split
      · rfl
      · rw [ih (iq + 1) cq 0 none false f8 f9]
    · split
      · rfl
      · split
        · rw [ih (iq + 1) c9 n9 _ false f8 f9]
        · rw [ih (iq + 1) c9 (n9 + 1) none _ _ (upd f9 n9 (zN (vlN t9 (cq - bsN c9))))]
theorem feG_w {sq : RS} (h : sq.2.2.2.1 = true) : ∀ (cs : List Nat) (iq : Nat), feG cs iq sq = feG cs iq sR0 := by
  obtain ⟨c9, n9, t9, w9, f9⟩ := sq
  dsimp only at h
  subst h
  intro cs iq
  cases cs with
  | nil => rfl
  | cons cq cs =>
    unfold feG pSt sR0
    dsimp only
    rw [if_pos rfl, if_pos rfl]
    split
    · rfl
    · rw [feG_f cs (iq + 1) cq 0 none false f9 (fun _ => 0)]
section QA
variable {so : Nat → Nat} {g : pwG} {xx tq cq : Nat} {w w1 : pwW} {lq cm nx tn wh vq : Int32} {fn fs : Nat → Int32} {sq : RS} {tx : List Nat} {Fq : FS}
theorem mr_g {jq : Nat} : pwGet (mkR tq lq sq w) tq 5 jq = ([.int lq, .ref (tq + 1), .ref (tq + 2), .int (zN sq.1), .int (zN sq.2.1), .int (oT sq.2.2.1), .int (if sq.2.2.2.1 = true then zN 1 else zN 0)] : List Value)[jq]? := mx_g
theorem mr_i : pwIsC (mkR tq lq sq w) tq 5 = true := mx_i
theorem m_sign {iq : Nat} (hw : w (tq + 1) = .inl (0, 120, .inl fs)) (hf : lsM 0 tx fs) (hl : tx.length ≤ 120) (h : tx[iq]? = some cq) : pwX so 126 0 [some (.ref (tq + 1)), some (.int (zN iq))] [] g (mkR tq lq sq w) = some (.inl (some (.int (zN cq))), g, (mkR tq lq sq w)) := by
  have h1 := (List.getElem?_eq_some_iff.mp h).1
  have h2 : mkR tq lq sq w (tq + 1) = .inl (0, 120, .inl fs) := by unfold mkR; rw [mx_o (by omega) (by omega)]; exact hw
  have h3 := hf iq cq h
  rw [Nat.zero_add] at h3
  rw [q_at h2 (Or.inl rfl) (by decide), qRd_in (by omega) (by omega), h3]
theorem m_first28 (hs : soW so tq w) (hw : w (tq + 1) = .inl (0, 120, .inl fs)) (hf : lsM 0 tx fs) (hl : tx.length ≤ 120) (hc : ∀ c9 ∈ tx, c9 ≤ 255) : ∀ (cs : List Nat) (iq : Nat) (sq : RS), tx.drop iq = cs → iq ≤ tx.length → inRS sq → ∃ s2, inRS s2 ∧ pwX so 87 28 [some (.ref tq), some (.int (zN iq))] [] g (mkR tq (zN tx.length) sq w) = some (.inl (some (.int (feG cs iq sq))), g, (mkR tq (zN tx.length) s2 w)) := by
  intro cs
  induction cs with
  | nil =>
    intro iq sq h1 h2 hI
    have h3 := congrArg List.length h1
    rw [List.length_drop] at h3
    have h3 : tx.length - iq = 0 := h3
    have h4 : iq = tx.length := by omega
    subst h4
    refine ⟨sq, hI, ?_⟩
    unfold feG
    by_cases h5 : sq.2.2.2.1 = true
    · rw [if_pos h5]
      simp (disch := omega) only [s_X6_firstError_0, s_X6_firstError_1, s_X6_firstError_4, s_X6_firstError_7, s_X6_firstError_8, s_X6_firstError_11, s_X6_firstError_12, s_X6_firstError_15, s_X6_firstError_17, s_X6_firstError_20, s_X6_firstError_21, s_X6_firstError_22, s_X6_firstError_23, s_X6_firstError_26, s_X6_firstError_27, s_X6_firstError_28, s_X6_firstError_29, s_X6_firstError_30, s_X6_firstError_33, s_X6_firstError_36, s_X6_firstError_37, s_X6_firstError_38, s_X6_firstError_41, s_X6_firstError_42, s_X6_firstError_45, s_X6_firstError_48, s_X6_firstError_51, s_X6_firstError_52, s_X6_firstError_53, s_X6_firstError_56, s_X6_firstError_59, s_X6_firstError_60, s_X6_firstError_63, s_X6_firstError_66, s_X6_firstError_67, s_X6_firstError_70, s_X6_firstError_71, s_X6_firstError_74, zN_neg1, nL0, nL1, nL2, nL3, nL4, nL5, nL6, nL7, nL8, nL9, nL10, nL11, nL12, nL13, nL14, nL20, nL21, nL22, nL23, nL25, nL32, nL33, nL39, nL40, nL43, nL44, nL99, nL100, nL120, nL216, nL217, nL218, nL219, nL220, nL221, nL500, nL999, nL1000, nL10000, nL100000, sh33, zN_lt, zN_le, zN_eq, zN_ge0, zN_lt0, zN_nm, zN_mn, zN_mlt, zN_ltm, zN_lem, zN_mle, zN_m1, zN_m2, zN_addm, zN_ofNat, zN_beq, zN_add, zN_sub, zN_mul, zN_rem, qT_lt, qF_lt, qT_le, qF_le, qT_eq, qF_eq, ↓reduceIte, and_true, true_and, false_and, and_false, not_true_eq_false, not_false_eq_true, decide_true, decide_false, Bool.true_or, Bool.or_true, Bool.false_or, Bool.or_false, cond_true, cond_false, qAv, cond_true, Option.bind_some, List.getElem?_cons_succ, List.getElem?_cons_zero, mr_g, h5, Bool.false_eq_true]
    · rw [if_neg h5]
      simp (disch := omega) only [s_X6_firstError_0, s_X6_firstError_1, s_X6_firstError_4, s_X6_firstError_7, s_X6_firstError_8, s_X6_firstError_11, s_X6_firstError_12, s_X6_firstError_15, s_X6_firstError_17, s_X6_firstError_20, s_X6_firstError_21, s_X6_firstError_22, s_X6_firstError_23, s_X6_firstError_26, s_X6_firstError_27, s_X6_firstError_28, s_X6_firstError_29, s_X6_firstError_30, s_X6_firstError_33, s_X6_firstError_36, s_X6_firstError_37, s_X6_firstError_38, s_X6_firstError_41, s_X6_firstError_42, s_X6_firstError_45, s_X6_firstError_48, s_X6_firstError_51, s_X6_firstError_52, s_X6_firstError_53, s_X6_firstError_56, s_X6_firstError_59, s_X6_firstError_60, s_X6_firstError_63, s_X6_firstError_66, s_X6_firstError_67, s_X6_firstError_70, s_X6_firstError_71, s_X6_firstError_74, zN_neg1, nL0, nL1, nL2, nL3, nL4, nL5, nL6, nL7, nL8, nL9, nL10, nL11, nL12, nL13, nL14, nL20, nL21, nL22, nL23, nL25, nL32, nL33, nL39, nL40, nL43, nL44, nL99, nL100, nL120, nL216, nL217, nL218, nL219, nL220, nL221, nL500, nL999, nL1000, nL10000, nL100000, sh33, zN_lt, zN_le, zN_eq, zN_ge0, zN_lt0, zN_nm, zN_mn, zN_mlt, zN_ltm, zN_lem, zN_mle, zN_m1, zN_m2, zN_addm, zN_ofNat, zN_beq, zN_add, zN_sub, zN_mul, zN_rem, qT_lt, qF_lt, qT_le, qF_le, qT_eq, qF_eq, ↓reduceIte, and_true, true_and, false_and, and_false, not_true_eq_false, not_false_eq_true, decide_true, decide_false, Bool.true_or, Bool.or_true, Bool.false_or, Bool.or_false, cond_true, cond_false, qAv, cond_true, Option.bind_some, List.getElem?_cons_succ, List.getElem?_cons_zero, mr_g, h5, Bool.false_eq_true]
  | cons cq cs ih =>
    intro iq sq h1 h2 hI
    have h3 := congrArg List.length h1
    rw [List.length_drop, List.length_cons] at h3
    have h4 : tx[iq]? = some cq := by
      have := congrArg (fun ls : List Nat => ls[0]?) h1
      rw [List.getElem?_drop, Nat.add_zero] at this
      exact this
    have h5 : tx.drop (iq + 1) = cs := by rw [← List.tail_drop, h1]; rfl
    have h6 := hc cq (List.mem_of_getElem? h4)
    have b0 := @m_sign so g tq cq w (zN tx.length) fs sq tx iq hw hf hl h4
    have b1 := @m_takes so g tq cq w (zN tx.length) sq hs h6 hI
    unfold feG
    by_cases h7 : (pSt sq cq).1 = true
    · rw [if_pos h7] at b1
      rw [if_pos h7]
      obtain ⟨s2, d1, d2⟩ := ih (iq + 1) _ h5 (by omega) (inRS_step hI h6)
      refine ⟨s2, d1, ?_⟩
      rw [← d2]
      conv => lhs; rw [s_X6_firstError_28]
      simp (disch := omega) only [s_X6_firstError_0, s_X6_firstError_1, s_X6_firstError_4, s_X6_firstError_7, s_X6_firstError_8, s_X6_firstError_11, s_X6_firstError_12, s_X6_firstError_15, s_X6_firstError_17, s_X6_firstError_20, s_X6_firstError_21, s_X6_firstError_22, s_X6_firstError_23, s_X6_firstError_26, s_X6_firstError_27, s_X6_firstError_29, s_X6_firstError_30, s_X6_firstError_33, s_X6_firstError_36, s_X6_firstError_37, s_X6_firstError_38, s_X6_firstError_41, s_X6_firstError_42, s_X6_firstError_45, s_X6_firstError_48, s_X6_firstError_51, s_X6_firstError_52, s_X6_firstError_53, s_X6_firstError_56, s_X6_firstError_59, s_X6_firstError_60, s_X6_firstError_63, s_X6_firstError_66, s_X6_firstError_67, s_X6_firstError_70, s_X6_firstError_71, s_X6_firstError_74, zN_neg1, nL0, nL1, nL2, nL3, nL4, nL5, nL6, nL7, nL8, nL9, nL10, nL11, nL12, nL13, nL14, nL20, nL21, nL22, nL23, nL25, nL32, nL33, nL39, nL40, nL43, nL44, nL99, nL100, nL120, nL216, nL217, nL218, nL219, nL220, nL221, nL500, nL999, nL1000, nL10000, nL100000, sh33, zN_lt, zN_le, zN_eq, zN_ge0, zN_lt0, zN_nm, zN_mn, zN_mlt, zN_ltm, zN_lem, zN_mle, zN_m1, zN_m2, zN_addm, zN_ofNat, zN_beq, zN_add, zN_sub, zN_mul, zN_rem, qT_lt, qF_lt, qT_le, qF_le, qT_eq, qF_eq, ↓reduceIte, and_true, true_and, false_and, and_false, not_true_eq_false, not_false_eq_true, decide_true, decide_false, Bool.true_or, Bool.or_true, Bool.false_or, Bool.or_false, cond_true, cond_false, qAv, cond_true, Option.bind_some, List.getElem?_cons_succ, List.getElem?_cons_zero, mr_g, mr_i, b0, b1]
    · rw [if_neg h7] at b1
      rw [if_neg h7]
      refine ⟨_, inRS_step hI h6, ?_⟩
      simp (disch := omega) only [s_X6_firstError_0, s_X6_firstError_1, s_X6_firstError_4, s_X6_firstError_7, s_X6_firstError_8, s_X6_firstError_11, s_X6_firstError_12, s_X6_firstError_15, s_X6_firstError_17, s_X6_firstError_20, s_X6_firstError_21, s_X6_firstError_22, s_X6_firstError_23, s_X6_firstError_26, s_X6_firstError_27, s_X6_firstError_28, s_X6_firstError_29, s_X6_firstError_30, s_X6_firstError_33, s_X6_firstError_36, s_X6_firstError_37, s_X6_firstError_38, s_X6_firstError_41, s_X6_firstError_42, s_X6_firstError_45, s_X6_firstError_48, s_X6_firstError_51, s_X6_firstError_52, s_X6_firstError_53, s_X6_firstError_56, s_X6_firstError_59, s_X6_firstError_60, s_X6_firstError_63, s_X6_firstError_66, s_X6_firstError_67, s_X6_firstError_70, s_X6_firstError_71, s_X6_firstError_74, zN_neg1, nL0, nL1, nL2, nL3, nL4, nL5, nL6, nL7, nL8, nL9, nL10, nL11, nL12, nL13, nL14, nL20, nL21, nL22, nL23, nL25, nL32, nL33, nL39, nL40, nL43, nL44, nL99, nL100, nL120, nL216, nL217, nL218, nL219, nL220, nL221, nL500, nL999, nL1000, nL10000, nL100000, sh33, zN_lt, zN_le, zN_eq, zN_ge0, zN_lt0, zN_nm, zN_mn, zN_mlt, zN_ltm, zN_lem, zN_mle, zN_m1, zN_m2, zN_addm, zN_ofNat, zN_beq, zN_add, zN_sub, zN_mul, zN_rem, qT_lt, qF_lt, qT_le, qF_le, qT_eq, qF_eq, ↓reduceIte, and_true, true_and, false_and, and_false, not_true_eq_false, not_false_eq_true, decide_true, decide_false, Bool.true_or, Bool.or_true, Bool.false_or, Bool.or_false, cond_true, cond_false, qAv, cond_true, Option.bind_some, List.getElem?_cons_succ, List.getElem?_cons_zero, mr_g, mr_i, b0, b1]
end QA
