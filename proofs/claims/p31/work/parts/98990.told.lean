/-! the pure part: says() and told(): a walk told as a text -/
section QA
variable {so : Nat → Nat} {g : pwG} {xx cq aq bq nq : Nat} {w w1 : pwW} {vq : Value} {Fq F1 : FS}
theorem sh_t {xq kq : Nat} (hk : kq < 4) (hx : xq < 2147483648) : zN xq >>> (zN kq &&& 31) = zN (xq / 2 ^ kq) := by
  have hc : ∀ k9 : Nat, k9 < 4 → ((zN k9 &&& 31).toBitVec.smod 32).toNat = k9 := by decide
  have hd : xq / 2 ^ kq < 2147483648 := Nat.lt_of_le_of_lt (Nat.div_le_self _ _) hx
  apply Int32.toInt_inj.mp
  rw [zN_toInt hd]
  have h1 : (zN xq >>> (zN kq &&& 31)).toBitVec = (zN xq).toBitVec.sshiftRight kq := by
    rw [Int32.toBitVec_shiftRight]
    show (zN xq).toBitVec.sshiftRight ((zN kq &&& 31).toBitVec.smod 32).toNat = _
    rw [hc kq hk]
  show (zN xq >>> (zN kq &&& 31)).toBitVec.toInt = _
  rw [h1, BitVec.toInt_sshiftRight]
  show (zN xq).toInt >>> kq = _
  rw [zN_toInt hx, Int.shiftRight_eq_div_pow]
  exact (Int.natCast_ediv xq (2 ^ kq)).symm
theorem app_v (hl : Fq.1.length = nq) (hn : nq < 120) (ha : aq ≤ 255) : fApp Fq (zN aq) = ((0, zN (nq + 1)), (Fq.1 ++ [aq], Fq.2)) := by
  unfold fApp
  rw [if_pos ⟨by rw [zN_toInt (by omega)]; omega, by rw [zN_toInt (by omega)]; omega⟩, if_pos (by omega), un_zN (by omega), hl]
theorem z_says {a1 a2 a3 a4 : Nat} (hl : Fq.1.length = nq) (hn : nq + 3 < 120) (h1 : a1 ≤ 255) (h2 : a2 ≤ 255) (h3 : a3 ≤ 255) (h4 : a4 ≤ 255) (hC : clsW xx Fq w) : lzE xx g w (Fq.1 ++ [a1, a2, a3, a4], Fq.2) 0 (.int (zN 1)) (pwX so 160 0 [some (.ref xx), some (.int (zN a1)), some (.int (zN a2)), some (.int (zN a3)), some (.int (zN a4))] [] g w) := by
  have e : (Fq.1 ++ [a1, a2, a3, a4], Fq.2) = ((((Fq.1 ++ [a1]) ++ [a2]) ++ [a3]) ++ [a4], Fq.2) := by simp only [List.append_assoc, List.cons_append, List.nil_append]
  rw [e]
  simp only [s_L_says_0, s_L_says_1, s_L_says_2]
  refine lzC0 (n_append (app_v hl (by omega) h1) hC) (fun g w hC hf => ?_)
  simp (disch := omega) only [s_L_says_5, s_L_says_6, s_L_says_7, s_L_says_10, s_L_says_11, s_L_says_12, zN_neg1, nL0, nL1, nL2, nL3, nL4, nL5, nL6, nL7, nL8, nL9, nL10, nL11, nL12, nL13, nL14, nL20, nL21, nL22, nL23, nL25, nL32, nL33, nL39, nL40, nL43, nL44, nL99, nL100, nL120, nL216, nL217, nL218, nL219, nL220, nL221, nL500, nL999, nL1000, nL10000, nL100000, lcGe0, lcLe0, lcL0, lcG0, i2l, zN_toInt, jL0, iT_le, iF_le, iT_lt, iF_lt, ↓reduceIte]
  refine lzC0 (n_append (app_v (nq := nq + 1) (by simp only [List.length_append, List.length_cons, List.length_nil, hl]) (by omega) h2) hC) (fun g w hC hf => ?_)
  simp (disch := omega) only [s_L_says_15, s_L_says_16, s_L_says_17, s_L_says_20, s_L_says_21, s_L_says_22, zN_neg1, nL0, nL1, nL2, nL3, nL4, nL5, nL6, nL7, nL8, nL9, nL10, nL11, nL12, nL13, nL14, nL20, nL21, nL22, nL23, nL25, nL32, nL33, nL39, nL40, nL43, nL44, nL99, nL100, nL120, nL216, nL217, nL218, nL219, nL220, nL221, nL500, nL999, nL1000, nL10000, nL100000, lcGe0, lcLe0, lcL0, lcG0, i2l, zN_toInt, jL0, iT_le, iF_le, iT_lt, iF_lt, ↓reduceIte]
  refine lzC0 (n_append (app_v (nq := nq + 2) (by simp only [List.length_append, List.length_cons, List.length_nil, hl]) (by omega) h3) hC) (fun g w hC hf => ?_)
  simp (disch := omega) only [s_L_says_25, s_L_says_26, s_L_says_27, s_L_says_30, s_L_says_31, s_L_says_33, zN_neg1, nL0, nL1, nL2, nL3, nL4, nL5, nL6, nL7, nL8, nL9, nL10, nL11, nL12, nL13, nL14, nL20, nL21, nL22, nL23, nL25, nL32, nL33, nL39, nL40, nL43, nL44, nL99, nL100, nL120, nL216, nL217, nL218, nL219, nL220, nL221, nL500, nL999, nL1000, nL10000, nL100000, lcGe0, lcLe0, lcL0, lcG0, i2l, zN_toInt, jL0, iT_le, iF_le, iT_lt, iF_lt, ↓reduceIte]
  refine lzC0 (n_append (app_v (nq := nq + 3) (by simp only [List.length_append, List.length_cons, List.length_nil, hl]) (by omega) h4) hC) (fun g w hC hf => ?_)
  simp (disch := omega) only [s_L_says_36, s_L_says_37, s_L_says_38, s_L_says_41, s_L_says_42, s_L_says_45, s_L_says_46, zN_neg1, nL0, nL1, nL2, nL3, nL4, nL5, nL6, nL7, nL8, nL9, nL10, nL11, nL12, nL13, nL14, nL20, nL21, nL22, nL23, nL25, nL32, nL33, nL39, nL40, nL43, nL44, nL99, nL100, nL120, nL216, nL217, nL218, nL219, nL220, nL221, nL500, nL999, nL1000, nL10000, nL100000, lcGe0, lcLe0, lcL0, lcG0, i2l, zN_toInt, jL0, iT_le, iF_le, iT_lt, iF_lt, ↓reduceIte, qbi, qb1, qb0]
  exact lzR hC
/-- the text that told() tells -/
def tellT (xq : Nat) : Nat → Nat → List Nat → List Nat
  | 0, _, tx => tx ++ fin9 xq
  | dq + 1, kq, tx => tellT xq dq (kq + 1) (tx ++ blk (xq / 2 ^ kq))
theorem tell_walk {xq : Nat} : ∀ dq kq cs, walk cs → ∃ ds, tellT xq dq kq (87 :: cs) = 87 :: ds ∧ walk ds
  | 0, _, cs, h => ⟨cs ++ fin9 xq, rfl, walk_a h walk_fin⟩
  | dq + 1, kq, cs, h => tell_walk dq (kq + 1) (cs ++ blk (xq / 2 ^ kq)) (walk_a h walk_blk)
theorem tell_err {xq : Nat} (dq kq : Nat) : fErr (tellT xq dq kq [87]) = zM := by
  obtain ⟨ds, e, h⟩ := tell_walk (xq := xq) dq kq [] walk_0
  rw [e]
  exact walk_err h
theorem nt26 {xq : Nat} (hx : xq < 2147483648) (hs : soW so xx w) : ∀ (dq kq : Nat) (tx : List Nat) (g : pwG) (w1 : pwW) (o4 : Option Value), kq + dq = 1 + xq % 4 → tx.length = 1 + 20 * kq → fErr (tellT xq dq kq tx) = zM → clsW xx (tx, Fq.2) w1 → frm xx w w1 → lzE xx g w1 (tellT xq dq kq tx, Fq.2) 0 (.int (zN 1)) (pwX so 161 26 [some (.ref xx), some (.int (zN xq)), some (.int (zN 1)), some (.int (zN kq)), o4] [] g w1) := by
  intro dq
  induction dq with
  | zero =>
    intro kq tx g w1 o4 h1 hl hE hC hf
    have h1 : kq = 1 + xq % 4 := by omega
    subst h1
    have nL15 : (4 : Int32) = zN 4 := rfl
    simp (disch := omega) only [s_L_told_26, s_L_told_27, s_L_told_28, s_L_told_29, s_L_told_30, s_L_told_31, s_L_told_32, s_L_told_193, s_L_told_194, s_L_told_197, s_L_told_198, s_L_told_200, s_L_told_202, s_L_told_204, s_L_told_205, s_L_told_207, s_L_told_208, s_L_told_209, s_L_told_211, nL24, nL26, nL36, nL48, nL49, nL50, nL60, nL65, nL87, nL90, nL109, nL114, nL115, nL116, nL119, nL200, nL256, nL501, zN_neg1, nL0, nL1, nL2, nL3, nL4, nL5, nL6, nL7, nL8, nL9, nL10, nL11, nL12, nL13, nL14, nL20, nL21, nL22, nL23, nL25, nL32, nL33, nL39, nL40, nL43, nL44, nL99, nL100, nL120, nL216, nL217, nL218, nL219, nL220, nL221, nL500, nL999, nL1000, nL10000, nL100000, sh33, zN_lt, zN_le, zN_eq, zN_ge0, zN_lt0, zN_nm, zN_mn, zN_mlt, zN_ltm, zN_lem, zN_mle, zN_m1, zN_m2, zN_addm, zN_ofNat, zN_beq, zN_add, zN_sub, zN_mul, zN_rem, qT_lt, qF_lt, qT_le, qF_le, qT_eq, qF_eq, ↓reduceIte, and_true, true_and, false_and, and_false, not_true_eq_false, not_false_eq_true, decide_true, decide_false, Bool.true_or, Bool.or_true, Bool.false_or, Bool.or_false, cond_true, cond_false]
    refine lzC0 (z_says (nq := 1 + 20 * (1 + xq % 4)) hl (by omega) (by omega) (by omega) (by omega) (by omega) hC) (fun g w2 hC hf2 => ?_)
    simp (disch := omega) only [s_L_told_214, s_L_told_217, s_L_told_218, s_L_told_220, s_L_told_221, s_L_told_222, s_L_told_223, s_L_told_224, nL24, nL26, nL36, nL48, nL49, nL50, nL60, nL65, nL87, nL90, nL109, nL114, nL115, nL116, nL119, nL200, nL256, nL501, zN_neg1, nL0, nL1, nL2, nL3, nL4, nL5, nL6, nL7, nL8, nL9, nL10, nL11, nL12, nL13, nL14, nL20, nL21, nL22, nL23, nL25, nL32, nL33, nL39, nL40, nL43, nL44, nL99, nL100, nL120, nL216, nL217, nL218, nL219, nL220, nL221, nL500, nL999, nL1000, nL10000, nL100000, sh33, zN_lt, zN_le, zN_eq, zN_ge0, zN_lt0, zN_nm, zN_mn, zN_mlt, zN_ltm, zN_lem, zN_mle, zN_m1, zN_m2, zN_addm, zN_ofNat, zN_beq, zN_add, zN_sub, zN_mul, zN_rem, qT_lt, qF_lt, qT_le, qF_le, qT_eq, qF_eq, ↓reduceIte, and_true, true_and, false_and, and_false, not_true_eq_false, not_false_eq_true, decide_true, decide_false, Bool.true_or, Bool.or_true, Bool.false_or, Bool.or_false, cond_true, cond_false]
    refine lzC0 (n_append (app_v (nq := 5 + 20 * (1 + xq % 4)) (by simp only [List.length_append, List.length_cons, List.length_nil, hl]; omega) (by omega) (by omega)) hC) (fun g w3 hC hf3 => ?_)
    simp (disch := omega) only [s_L_told_227, s_L_told_228, s_L_told_229, s_L_told_232, s_L_told_233, nL24, nL26, nL36, nL48, nL49, nL50, nL60, nL65, nL87, nL90, nL109, nL114, nL115, nL116, nL119, nL200, nL256, nL501, zN_neg1, nL0, nL1, nL2, nL3, nL4, nL5, nL6, nL7, nL8, nL9, nL10, nL11, nL12, nL13, nL14, nL20, nL21, nL22, nL23, nL25, nL32, nL33, nL39, nL40, nL43, nL44, nL99, nL100, nL120, nL216, nL217, nL218, nL219, nL220, nL221, nL500, nL999, nL1000, nL10000, nL100000, lcGe0, lcLe0, lcL0, lcG0, i2l, zN_toInt, jL0, iT_le, iF_le, iT_lt, iF_lt, ↓reduceIte]
    have e1 : (tx ++ [116, 48, 49 + xq % 9, 109]) ++ [48 + xq % 2] = tellT xq 0 (1 + xq % 4) tx := by rw [List.append_assoc]; rfl
    have hC : clsW xx (tellT xq 0 (1 + xq % 4) tx, Fq.2) w3 := by rw [← e1]; exact hC
    rw [show pwIsC w3 xx 6 = true from ci_ hC.1, cond_true]
    refine lzC0 (lzE_v (v2 := .int zM) (by show Value.int (fErr (tellT xq 0 (1 + xq % 4) tx)) = _; rw [hE]) (d_errorPosition (soW_fr (soW_fr (soW_fr hs hf) hf2) hf3) hC)) (fun g w4 hC hf4 => ?_)
    simp (disch := omega) only [s_L_told_236, s_L_told_237, s_L_told_240, s_L_told_241, s_L_told_244, s_L_told_245, nL24, nL26, nL36, nL48, nL49, nL50, nL60, nL65, nL87, nL90, nL109, nL114, nL115, nL116, nL119, nL200, nL256, nL501, zN_neg1, nL0, nL1, nL2, nL3, nL4, nL5, nL6, nL7, nL8, nL9, nL10, nL11, nL12, nL13, nL14, nL20, nL21, nL22, nL23, nL25, nL32, nL33, nL39, nL40, nL43, nL44, nL99, nL100, nL120, nL216, nL217, nL218, nL219, nL220, nL221, nL500, nL999, nL1000, nL10000, nL100000, qbi, qb1, qb0, ↓reduceIte]
    exact lzR hC
  | succ dq ih =>
    intro kq tx g w1 o4 h1 hl hE hC hf
    have hsh := sh_t (xq := xq) (kq := kq) (by omega) hx
    have hd : xq / 2 ^ kq < 2147483648 := Nat.lt_of_le_of_lt (Nat.div_le_self _ _) hx
    generalize hy : xq / 2 ^ kq = yq at hsh hd
    simp (disch := omega) only [s_L_told_26, s_L_told_27, s_L_told_28, s_L_told_29, s_L_told_30, s_L_told_31, s_L_told_32, s_L_told_35, s_L_told_36, s_L_told_39, s_L_told_40, s_L_told_41, s_L_told_42, s_L_told_44, s_L_told_45, s_L_told_47, s_L_told_49, s_L_told_51, s_L_told_53, s_L_told_54, s_L_told_55, s_L_told_57, s_L_told_59, s_L_told_61, s_L_told_63, s_L_told_64, s_L_told_65, hsh, nL24, nL26, nL36, nL48, nL49, nL50, nL60, nL65, nL87, nL90, nL109, nL114, nL115, nL116, nL119, nL200, nL256, nL501, zN_neg1, nL0, nL1, nL2, nL3, nL4, nL5, nL6, nL7, nL8, nL9, nL10, nL11, nL12, nL13, nL14, nL20, nL21, nL22, nL23, nL25, nL32, nL33, nL39, nL40, nL43, nL44, nL99, nL100, nL120, nL216, nL217, nL218, nL219, nL220, nL221, nL500, nL999, nL1000, nL10000, nL100000, sh33, zN_lt, zN_le, zN_eq, zN_ge0, zN_lt0, zN_nm, zN_mn, zN_mlt, zN_ltm, zN_lem, zN_mle, zN_m1, zN_m2, zN_addm, zN_ofNat, zN_beq, zN_add, zN_sub, zN_mul, zN_rem, qT_lt, qF_lt, qT_le, qF_le, qT_eq, qF_eq, ↓reduceIte, and_true, true_and, false_and, and_false, not_true_eq_false, not_false_eq_true, decide_true, decide_false, Bool.true_or, Bool.or_true, Bool.false_or, Bool.or_false, cond_true, cond_false]
    refine lzC0 (z_says (nq := 1 + 20 * kq) hl (by omega) (by omega) (by omega) (by omega) (by omega) hC) (fun g w2 hC hf2 => ?_)
    simp (disch := omega) only [s_L_told_68, s_L_told_71, s_L_told_72, s_L_told_74, s_L_told_76, s_L_told_78, s_L_told_80, s_L_told_82, s_L_told_83, s_L_told_84, s_L_told_86, nL24, nL26, nL36, nL48, nL49, nL50, nL60, nL65, nL87, nL90, nL109, nL114, nL115, nL116, nL119, nL200, nL256, nL501, zN_neg1, nL0, nL1, nL2, nL3, nL4, nL5, nL6, nL7, nL8, nL9, nL10, nL11, nL12, nL13, nL14, nL20, nL21, nL22, nL23, nL25, nL32, nL33, nL39, nL40, nL43, nL44, nL99, nL100, nL120, nL216, nL217, nL218, nL219, nL220, nL221, nL500, nL999, nL1000, nL10000, nL100000, sh33, zN_lt, zN_le, zN_eq, zN_ge0, zN_lt0, zN_nm, zN_mn, zN_mlt, zN_ltm, zN_lem, zN_mle, zN_m1, zN_m2, zN_addm, zN_ofNat, zN_beq, zN_add, zN_sub, zN_mul, zN_rem, qT_lt, qF_lt, qT_le, qF_le, qT_eq, qF_eq, ↓reduceIte, and_true, true_and, false_and, and_false, not_true_eq_false, not_false_eq_true, decide_true, decide_false, Bool.true_or, Bool.or_true, Bool.false_or, Bool.or_false, cond_true, cond_false]
    refine lzC0 (z_says (nq := 5 + 20 * kq) (by simp only [List.length_append, List.length_cons, List.length_nil, hl]; omega) (by omega) (by omega) (by omega) (by omega) (by omega) hC) (fun g w3 hC hf3 => ?_)
    simp (disch := omega) only [s_L_told_89, s_L_told_92, s_L_told_93, s_L_told_95, s_L_told_97, s_L_told_99, s_L_told_100, s_L_told_101, s_L_told_103, s_L_told_105, s_L_told_107, s_L_told_109, s_L_told_110, s_L_told_111, s_L_told_113, s_L_told_115, s_L_told_117, s_L_told_118, s_L_told_119, nL24, nL26, nL36, nL48, nL49, nL50, nL60, nL65, nL87, nL90, nL109, nL114, nL115, nL116, nL119, nL200, nL256, nL501, zN_neg1, nL0, nL1, nL2, nL3, nL4, nL5, nL6, nL7, nL8, nL9, nL10, nL11, nL12, nL13, nL14, nL20, nL21, nL22, nL23, nL25, nL32, nL33, nL39, nL40, nL43, nL44, nL99, nL100, nL120, nL216, nL217, nL218, nL219, nL220, nL221, nL500, nL999, nL1000, nL10000, nL100000, sh33, zN_lt, zN_le, zN_eq, zN_ge0, zN_lt0, zN_nm, zN_mn, zN_mlt, zN_ltm, zN_lem, zN_mle, zN_m1, zN_m2, zN_addm, zN_ofNat, zN_beq, zN_add, zN_sub, zN_mul, zN_rem, qT_lt, qF_lt, qT_le, qF_le, qT_eq, qF_eq, ↓reduceIte, and_true, true_and, false_and, and_false, not_true_eq_false, not_false_eq_true, decide_true, decide_false, Bool.true_or, Bool.or_true, Bool.false_or, Bool.or_false, cond_true, cond_false]
    refine lzC0 (z_says (nq := 9 + 20 * kq) (by simp only [List.length_append, List.length_cons, List.length_nil, hl]; omega) (by omega) (by omega) (by omega) (by omega) (by omega) hC) (fun g w4 hC hf4 => ?_)
    simp (disch := omega) only [s_L_told_122, s_L_told_125, s_L_told_126, s_L_told_128, s_L_told_130, s_L_told_132, s_L_told_134, s_L_told_136, s_L_told_137, s_L_told_138, s_L_told_140, nL24, nL26, nL36, nL48, nL49, nL50, nL60, nL65, nL87, nL90, nL109, nL114, nL115, nL116, nL119, nL200, nL256, nL501, zN_neg1, nL0, nL1, nL2, nL3, nL4, nL5, nL6, nL7, nL8, nL9, nL10, nL11, nL12, nL13, nL14, nL20, nL21, nL22, nL23, nL25, nL32, nL33, nL39, nL40, nL43, nL44, nL99, nL100, nL120, nL216, nL217, nL218, nL219, nL220, nL221, nL500, nL999, nL1000, nL10000, nL100000, sh33, zN_lt, zN_le, zN_eq, zN_ge0, zN_lt0, zN_nm, zN_mn, zN_mlt, zN_ltm, zN_lem, zN_mle, zN_m1, zN_m2, zN_addm, zN_ofNat, zN_beq, zN_add, zN_sub, zN_mul, zN_rem, qT_lt, qF_lt, qT_le, qF_le, qT_eq, qF_eq, ↓reduceIte, and_true, true_and, false_and, and_false, not_true_eq_false, not_false_eq_true, decide_true, decide_false, Bool.true_or, Bool.or_true, Bool.false_or, Bool.or_false, cond_true, cond_false]
    refine lzC0 (z_says (nq := 13 + 20 * kq) (by simp only [List.length_append, List.length_cons, List.length_nil, hl]; omega) (by omega) (by omega) (by omega) (by omega) (by omega) hC) (fun g w5 hC hf5 => ?_)
    simp (disch := omega) only [s_L_told_143, s_L_told_146, s_L_told_147, s_L_told_149, s_L_told_151, s_L_told_153, s_L_told_154, s_L_told_155, s_L_told_157, s_L_told_159, s_L_told_161, s_L_told_162, s_L_told_164, s_L_told_165, s_L_told_166, s_L_told_168, s_L_told_170, s_L_told_172, s_L_told_173, s_L_told_174, s_L_told_175, zN_div, nat_rem, nL24, nL26, nL36, nL48, nL49, nL50, nL60, nL65, nL87, nL90, nL109, nL114, nL115, nL116, nL119, nL200, nL256, nL501, zN_neg1, nL0, nL1, nL2, nL3, nL4, nL5, nL6, nL7, nL8, nL9, nL10, nL11, nL12, nL13, nL14, nL20, nL21, nL22, nL23, nL25, nL32, nL33, nL39, nL40, nL43, nL44, nL99, nL100, nL120, nL216, nL217, nL218, nL219, nL220, nL221, nL500, nL999, nL1000, nL10000, nL100000, sh33, zN_lt, zN_le, zN_eq, zN_ge0, zN_lt0, zN_nm, zN_mn, zN_mlt, zN_ltm, zN_lem, zN_mle, zN_m1, zN_m2, zN_addm, zN_ofNat, zN_beq, zN_add, zN_sub, zN_mul, zN_rem, qT_lt, qF_lt, qT_le, qF_le, qT_eq, qF_eq, ↓reduceIte, and_true, true_and, false_and, and_false, not_true_eq_false, not_false_eq_true, decide_true, decide_false, Bool.true_or, Bool.or_true, Bool.false_or, Bool.or_false, cond_true, cond_false]
    refine lzC0 (z_says (nq := 17 + 20 * kq) (by simp only [List.length_append, List.length_cons, List.length_nil, hl]; omega) (by omega) (by omega) (by omega) (by omega) (by omega) hC) (fun g w6 hC hf6 => ?_)
    simp (disch := omega) only [s_L_told_178, s_L_told_181, s_L_told_182, s_L_told_185, s_L_told_186, s_L_told_187, s_L_told_190, nL24, nL26, nL36, nL48, nL49, nL50, nL60, nL65, nL87, nL90, nL109, nL114, nL115, nL116, nL119, nL200, nL256, nL501, zN_neg1, nL0, nL1, nL2, nL3, nL4, nL5, nL6, nL7, nL8, nL9, nL10, nL11, nL12, nL13, nL14, nL20, nL21, nL22, nL23, nL25, nL32, nL33, nL39, nL40, nL43, nL44, nL99, nL100, nL120, nL216, nL217, nL218, nL219, nL220, nL221, nL500, nL999, nL1000, nL10000, nL100000, sh33, zN_lt, zN_le, zN_eq, zN_ge0, zN_lt0, zN_nm, zN_mn, zN_mlt, zN_ltm, zN_lem, zN_mle, zN_m1, zN_m2, zN_addm, zN_ofNat, zN_beq, zN_add, zN_sub, zN_mul, zN_rem, qT_lt, qF_lt, qT_le, qF_le, qT_eq, qF_eq, ↓reduceIte, and_true, true_and, false_and, and_false, not_true_eq_false, not_false_eq_true, decide_true, decide_false, Bool.true_or, Bool.or_true, Bool.false_or, Bool.or_false, cond_true, cond_false]
    have e1 : tellT xq (dq + 1) kq tx = tellT xq dq (kq + 1) (tx ++ blk yq) := by rw [← hy]; rfl
    have e2 : ((((tx ++ [119, 65 + yq % 26, 119, 90 - yq % 25]) ++ [115, 48, 50 + yq % 8, 48]) ++ [49 + yq % 9, 48, 48 + yq % 10, 49 + yq % 6]) ++ [116, 48, 49 + yq % 9, 120]) ++ [48 + yq % 10, 48 + yq / 10 % 10, 114, 48 + yq % 4] = tx ++ blk yq := by
      unfold blk; simp only [List.append_assoc]
    have hC : clsW xx (tx ++ blk yq, Fq.2) w6 := by
      have h9 := hC
      dsimp only at h9
      rw [e2] at h9
      exact h9
    rw [e1] at hE ⊢
    exact ih (kq + 1) (tx ++ blk yq) g w6 _ (by omega) (by rw [List.length_append, hl, blk_len]; omega) hE hC (frm_t (frm_t (frm_t (frm_t (frm_t hf hf2) hf3) hf4) hf5) hf6)
theorem z_told {xq : Nat} (hx : xq < 2147483648) (hs : soW so xx w) (hC : clsW xx Fq w) : lzE xx g w (tellT xq (1 + xq % 4) 0 [87], Fq.2) 0 (.int (zN 1)) (pwX so 161 0 [some (.ref xx), some (.int (zN xq)), none, none, none] [] g w) := by
  have hl := hC.1
  simp only [s_L_told_0, s_L_told_1]
  rw [show pwIsC w xx 6 = true from ci_ hC.1, cond_true]
  refine lzC0 (lzE_v (v2 := .int (zN Fq.1.length)) rfl (d_clearText hC)) (fun g w2 hC2 hf2 => ?_)
  have hlen := hC.2.2.2.2.1.1
  simp (disch := omega) only [s_L_told_4, s_L_told_7, s_L_told_8, s_L_told_10, nL24, nL26, nL36, nL48, nL49, nL50, nL60, nL65, nL87, nL90, nL109, nL114, nL115, nL116, nL119, nL200, nL256, nL501, zN_neg1, nL0, nL1, nL2, nL3, nL4, nL5, nL6, nL7, nL8, nL9, nL10, nL11, nL12, nL13, nL14, nL20, nL21, nL22, nL23, nL25, nL32, nL33, nL39, nL40, nL43, nL44, nL99, nL100, nL120, nL216, nL217, nL218, nL219, nL220, nL221, nL500, nL999, nL1000, nL10000, nL100000, sh33, zN_lt, zN_le, zN_eq, zN_ge0, zN_lt0, zN_nm, zN_mn, zN_mlt, zN_ltm, zN_lem, zN_mle, zN_m1, zN_m2, zN_addm, zN_ofNat, zN_beq, zN_add, zN_sub, zN_mul, zN_rem, qT_lt, qF_lt, qT_le, qF_le, qT_eq, qF_eq, ↓reduceIte, and_true, true_and, false_and, and_false, not_true_eq_false, not_false_eq_true, decide_true, decide_false, Bool.true_or, Bool.or_true, Bool.false_or, Bool.or_false, cond_true, cond_false]
  refine lzC0 (n_append (app_v (nq := 0) rfl (by omega) (by omega)) hC2) (fun g w3 hC3 hf3 => ?_)
  simp (disch := omega) only [s_L_told_13, s_L_told_14, s_L_told_15, s_L_told_18, s_L_told_19, s_L_told_22, s_L_told_23, s_L_told_24, s_L_told_25, nL24, nL26, nL36, nL48, nL49, nL50, nL60, nL65, nL87, nL90, nL109, nL114, nL115, nL116, nL119, nL200, nL256, nL501, zN_neg1, nL0, nL1, nL2, nL3, nL4, nL5, nL6, nL7, nL8, nL9, nL10, nL11, nL12, nL13, nL14, nL20, nL21, nL22, nL23, nL25, nL32, nL33, nL39, nL40, nL43, nL44, nL99, nL100, nL120, nL216, nL217, nL218, nL219, nL220, nL221, nL500, nL999, nL1000, nL10000, nL100000, lcGe0, lcLe0, lcL0, lcG0, i2l, zN_toInt, jL0, iT_le, iF_le, iT_lt, iF_lt, ↓reduceIte]
  exact nt26 (w := w) hx hs (1 + xq % 4) 0 [87] g w3 none (by omega) rfl (tell_err _ _) hC3 (frm_t hf2 hf3)
end QA
