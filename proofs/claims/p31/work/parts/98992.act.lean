/-! the pure part: act(): one of the calls -/
def actT (rq : Nat) : Nat := if rq < 4 then 116 else if rq < 6 then 125 else if rq < 9 then 158 else if rq = 9 then 171 else if rq = 10 then 183 else if rq < 13 then 196 else if rq < 20 then 207 else if rq = 20 then 229 else if rq < 23 then 247 else 252
theorem sw_act : ∀ r9 : Fin 24, pwSwt [(0, 116), (1, 116), (2, 116), (3, 116), (4, 125), (5, 125), (6, 158), (7, 158), (8, 158), (9, 171), (10, 183), (11, 196), (12, 196), (13, 207), (14, 207), (15, 207), (16, 207), (17, 207), (18, 207), (19, 207), (20, 229), (21, 247), (22, 247)] 252 (zN r9.1) = actT r9.1 := by decide +kernel
theorem sw_act0 : ∀ r9 : Fin 24, pwSwt [(0, 116), (1, 116), (2, 116), (3, 116), (4, 125), (5, 125), (6, 158), (7, 158), (8, 158), (9, 171), (10, 183), (11, 196), (12, 196), (13, 207), (14, 207), (15, 207), (16, 207), (17, 207), (18, 207), (19, 207), (20, 229), (21, 247), (22, 247)] 252 (zN r9.1) = actT r9.1 := sw_act
section QA
variable {xx bz xq yq : Nat} {Fq : FS}
theorem act_pre (so : Nat → Nat) (g : pwG) (w : pwW) (xx : Nat) (hx : xq < 2147483648) : (pwX so 162 0 [some (.ref xx), some (.int (zN xq)), some (.int (zN yq)), none] [] g w) = pwX so 162 (actT (xq % 24)) [some (.ref xx), some (.int (zN xq)), some (.int (zN yq)), some (.int (zN yq / zN 32))] [] g w := by
  have h := sw_act ⟨xq % 24, Nat.mod_lt _ (by omega)⟩
  have n32 : ((32 : Int32) = 0) = False := eq_false (by decide)
  have n24 : ((24 : Int32) = 0) = False := eq_false (by decide)
  have e24 : zN xq - zN xq / 24 * 24 = zN (xq % 24) := zN_rem (bq := 24) hx (by omega)
  simp only [s_L_act_0, s_L_act_1, s_L_act_3, s_L_act_4, s_L_act_5, s_L_act_6, s_L_act_8, s_L_act_9, n32, n24, e24, if_false, ↓reduceIte]
  rw [h]
  rfl
theorem lzT {so : Nat → Nat} {g : pwG} {xx mi pc pc2 : Nat} {w : pwW} {F1 : FS} {l9 : Int64} {L : pwLL} {cl : Nat × pwLL} {X : Option pwO} (h1 : lzE xx g w F1 1 (.long l9) X) (h2 : ∀ (g1 : pwG) (w1 : pwW), pwX so mi pc2 L [.long l9] g1 w1 = some (.inl (some (.long l9)), g1, w1)) : lzE xx g w F1 1 (.long l9) (pwAft (pwX so) mi pc L (cl, pc2, []) X) := by
  refine lzC (c2 := 0) h1 (fun g w hC hf => ?_)
  rw [h2]
  exact lzR hC
theorem z_act (hx : xq < 2147483648) (hy : yq < 2147483648) (Fq : FS) : ∃ (F9 : FS) (lv : Int64), (∀ (so : Nat → Nat) (g : pwG) (xx : Nat) (w : pwW), clsW xx Fq w → lzE xx g w F9 1 (.long lv) (pwX so 162 0 [some (.ref xx), some (.int (zN xq)), some (.int (zN yq)), none] [] g w)) ∧ ∀ bz, invT Fq.2.1 → okF bz Fq → bz + 99 < 2147483648 → okF (bz + 99) F9 := by
  have hr : xq % 24 < 24 := Nat.mod_lt _ (by omega)
  have hc : actT (xq % 24) = 116 ∨ actT (xq % 24) = 125 ∨ actT (xq % 24) = 158 ∨ actT (xq % 24) = 171 ∨ actT (xq % 24) = 183 ∨ actT (xq % 24) = 196 ∨ actT (xq % 24) = 207 ∨ actT (xq % 24) = 229 ∨ actT (xq % 24) = 247 ∨ actT (xq % 24) = 252 := by
    unfold actT
    repeat' split
    all_goals omega
  generalize hw9 : zN yq / zN 32 = w9
  rcases hc with hT | hT | hT | hT | hT | hT | hT | hT | hT | hT
  · apply Exists.intro
    apply Exists.intro
    constructor
    · intro so g xx w hC
      rw [act_pre so g w xx hx, hT, hw9]
      simp (disch := omega) only [s_L_act_116, s_L_act_117, s_L_act_118, s_L_act_120, s_L_act_121, nL24, nL26, nL36, nL48, nL49, nL50, nL60, nL65, nL87, nL90, nL109, nL114, nL115, nL116, nL119, nL200, nL256, nL501, zN_neg1, nL0, nL1, nL2, nL3, nL4, nL5, nL6, nL7, nL8, nL9, nL10, nL11, nL12, nL13, nL14, nL20, nL21, nL22, nL23, nL25, nL32, nL33, nL39, nL40, nL43, nL44, nL99, nL100, nL120, nL216, nL217, nL218, nL219, nL220, nL221, nL500, nL999, nL1000, nL10000, nL100000, sh33, zN_lt, zN_le, zN_eq, zN_ge0, zN_lt0, zN_nm, zN_mn, zN_mlt, zN_ltm, zN_lem, zN_mle, zN_m1, zN_m2, zN_addm, zN_ofNat, zN_beq, zN_add, zN_sub, zN_mul, zN_rem, qT_lt, qF_lt, qT_le, qF_le, qT_eq, qF_eq, ↓reduceIte, and_true, true_and, false_and, and_false, not_true_eq_false, not_false_eq_true, decide_true, decide_false, Bool.true_or, Bool.or_true, Bool.false_or, Bool.or_false, cond_true, cond_false]
      exact lzT (lzE_c (w_walker hC) (by split <;> omega)) (fun g w => by simp only [s_L_act_124])
    · intro bz hI ho hb
      exact okF_le (okF_walker hI ho) (by omega)
  · apply Exists.intro
    apply Exists.intro
    constructor
    · intro so g xx w hC
      rw [act_pre so g w xx hx, hT, hw9]
      simp (disch := omega) only [s_L_act_125, s_L_act_126, s_L_act_127, s_L_act_128, s_L_act_130, s_L_act_131, s_L_act_132, s_L_act_133, s_L_act_134, s_L_act_136, s_L_act_137, s_L_act_138, s_L_act_139, s_L_act_141, s_L_act_142, s_L_act_144, s_L_act_145, s_L_act_146, s_L_act_147, s_L_act_149, s_L_act_150, s_L_act_152, s_L_act_153, s_L_act_154, nL24, nL26, nL36, nL48, nL49, nL50, nL60, nL65, nL87, nL90, nL109, nL114, nL115, nL116, nL119, nL200, nL256, nL501, zN_neg1, nL0, nL1, nL2, nL3, nL4, nL5, nL6, nL7, nL8, nL9, nL10, nL11, nL12, nL13, nL14, nL20, nL21, nL22, nL23, nL25, nL32, nL33, nL39, nL40, nL43, nL44, nL99, nL100, nL120, nL216, nL217, nL218, nL219, nL220, nL221, nL500, nL999, nL1000, nL10000, nL100000, sh33, zN_lt, zN_le, zN_eq, zN_ge0, zN_lt0, zN_nm, zN_mn, zN_mlt, zN_ltm, zN_lem, zN_mle, zN_m1, zN_m2, zN_addm, zN_ofNat, zN_beq, zN_add, zN_sub, zN_mul, zN_rem, qT_lt, qF_lt, qT_le, qF_le, qT_eq, qF_eq, ↓reduceIte, and_true, true_and, false_and, and_false, not_true_eq_false, not_false_eq_true, decide_true, decide_false, Bool.true_or, Bool.or_true, Bool.false_or, Bool.or_false, cond_true, cond_false]
      exact lzT (lzE_c (w_street hC) (by split <;> omega)) (fun g w => by simp only [s_L_act_157])
    · intro bz hI ho hb
      exact okF_le (okF_street ho) (by omega)
  · apply Exists.intro
    apply Exists.intro
    constructor
    · intro so g xx w hC
      rw [act_pre so g w xx hx, hT, hw9]
      simp (disch := omega) only [s_L_act_158, s_L_act_159, s_L_act_160, s_L_act_162, s_L_act_163, s_L_act_164, s_L_act_166, s_L_act_167, nL24, nL26, nL36, nL48, nL49, nL50, nL60, nL65, nL87, nL90, nL109, nL114, nL115, nL116, nL119, nL200, nL256, nL501, zN_neg1, nL0, nL1, nL2, nL3, nL4, nL5, nL6, nL7, nL8, nL9, nL10, nL11, nL12, nL13, nL14, nL20, nL21, nL22, nL23, nL25, nL32, nL33, nL39, nL40, nL43, nL44, nL99, nL100, nL120, nL216, nL217, nL218, nL219, nL220, nL221, nL500, nL999, nL1000, nL10000, nL100000, sh33, zN_lt, zN_le, zN_eq, zN_ge0, zN_lt0, zN_nm, zN_mn, zN_mlt, zN_ltm, zN_lem, zN_mle, zN_m1, zN_m2, zN_addm, zN_ofNat, zN_beq, zN_add, zN_sub, zN_mul, zN_rem, qT_lt, qF_lt, qT_le, qF_le, qT_eq, qF_eq, ↓reduceIte, and_true, true_and, false_and, and_false, not_true_eq_false, not_false_eq_true, decide_true, decide_false, Bool.true_or, Bool.or_true, Bool.false_or, Bool.or_false, cond_true, cond_false]
      exact lzT (lzE_c (w_exchange hC) (by split <;> omega)) (fun g w => by simp only [s_L_act_170])
    · intro bz hI ho hb
      exact okF_le (okF_exch ho) (by omega)
  · apply Exists.intro
    apply Exists.intro
    constructor
    · intro so g xx w hC
      rw [act_pre so g w xx hx, hT, hw9]
      simp (disch := omega) only [s_L_act_171, s_L_act_172, s_L_act_173, s_L_act_174, s_L_act_175, s_L_act_176, s_L_act_178, s_L_act_179, nL24, nL26, nL36, nL48, nL49, nL50, nL60, nL65, nL87, nL90, nL109, nL114, nL115, nL116, nL119, nL200, nL256, nL501, zN_neg1, nL0, nL1, nL2, nL3, nL4, nL5, nL6, nL7, nL8, nL9, nL10, nL11, nL12, nL13, nL14, nL20, nL21, nL22, nL23, nL25, nL32, nL33, nL39, nL40, nL43, nL44, nL99, nL100, nL120, nL216, nL217, nL218, nL219, nL220, nL221, nL500, nL999, nL1000, nL10000, nL100000, sh33, zN_lt, zN_le, zN_eq, zN_ge0, zN_lt0, zN_nm, zN_mn, zN_mlt, zN_ltm, zN_lem, zN_mle, zN_m1, zN_m2, zN_addm, zN_ofNat, zN_beq, zN_add, zN_sub, zN_mul, zN_rem, qT_lt, qF_lt, qT_le, qF_le, qT_eq, qF_eq, ↓reduceIte, and_true, true_and, false_and, and_false, not_true_eq_false, not_false_eq_true, decide_true, decide_false, Bool.true_or, Bool.or_true, Bool.false_or, Bool.or_false, cond_true, cond_false]
      exact lzT (lzE_c (w_shift hC) (by split <;> omega)) (fun g w => by simp only [s_L_act_182])
    · intro bz hI ho hb
      exact okF_le (okF_shift ho) (by omega)
  · apply Exists.intro
    apply Exists.intro
    constructor
    · intro so g xx w hC
      rw [act_pre so g w xx hx, hT, hw9]
      simp (disch := omega) only [s_L_act_183, s_L_act_184, s_L_act_185, s_L_act_187, s_L_act_188, s_L_act_189, s_L_act_191, s_L_act_192, nL24, nL26, nL36, nL48, nL49, nL50, nL60, nL65, nL87, nL90, nL109, nL114, nL115, nL116, nL119, nL200, nL256, nL501, zN_neg1, nL0, nL1, nL2, nL3, nL4, nL5, nL6, nL7, nL8, nL9, nL10, nL11, nL12, nL13, nL14, nL20, nL21, nL22, nL23, nL25, nL32, nL33, nL39, nL40, nL43, nL44, nL99, nL100, nL120, nL216, nL217, nL218, nL219, nL220, nL221, nL500, nL999, nL1000, nL10000, nL100000, sh33, zN_lt, zN_le, zN_eq, zN_ge0, zN_lt0, zN_nm, zN_mn, zN_mlt, zN_ltm, zN_lem, zN_mle, zN_m1, zN_m2, zN_addm, zN_ofNat, zN_beq, zN_add, zN_sub, zN_mul, zN_rem, qT_lt, qF_lt, qT_le, qF_le, qT_eq, qF_eq, ↓reduceIte, and_true, true_and, false_and, and_false, not_true_eq_false, not_false_eq_true, decide_true, decide_false, Bool.true_or, Bool.or_true, Bool.false_or, Bool.or_false, cond_true, cond_false]
      exact lzT (lzE_c (w_letter hC) (by split <;> omega)) (fun g w => by simp only [s_L_act_195])
    · intro bz hI ho hb
      exact okF_le (okF_letter ho) (by omega)
  · apply Exists.intro
    apply Exists.intro
    constructor
    · intro so g xx w hC
      rw [act_pre so g w xx hx, hT, hw9]
      simp (disch := omega) only [s_L_act_196, s_L_act_197, s_L_act_198, s_L_act_199, s_L_act_200, s_L_act_201, s_L_act_202, s_L_act_203, nL24, nL26, nL36, nL48, nL49, nL50, nL60, nL65, nL87, nL90, nL109, nL114, nL115, nL116, nL119, nL200, nL256, nL501, zN_neg1, nL0, nL1, nL2, nL3, nL4, nL5, nL6, nL7, nL8, nL9, nL10, nL11, nL12, nL13, nL14, nL20, nL21, nL22, nL23, nL25, nL32, nL33, nL39, nL40, nL43, nL44, nL99, nL100, nL120, nL216, nL217, nL218, nL219, nL220, nL221, nL500, nL999, nL1000, nL10000, nL100000, sh33, zN_lt, zN_le, zN_eq, zN_ge0, zN_lt0, zN_nm, zN_mn, zN_mlt, zN_ltm, zN_lem, zN_mle, zN_m1, zN_m2, zN_addm, zN_ofNat, zN_beq, zN_add, zN_sub, zN_mul, zN_rem, qT_lt, qF_lt, qT_le, qF_le, qT_eq, qF_eq, ↓reduceIte, and_true, true_and, false_and, and_false, not_true_eq_false, not_false_eq_true, decide_true, decide_false, Bool.true_or, Bool.or_true, Bool.false_or, Bool.or_false, cond_true, cond_false]
      exact lzT (lzE_c (w_set hC) (by split <;> omega)) (fun g w => by simp only [s_L_act_206])
    · intro bz hI ho hb
      exact okF_le (okF_set ho) (by omega)
  · by_cases h5 : w9 - w9 / zN 5 * zN 5 = zN 0
    · apply Exists.intro
      apply Exists.intro
      constructor
      · intro so g xx w hC
        rw [act_pre so g w xx hx, hT, hw9]
        simp (disch := omega) only [s_L_act_207, s_L_act_208, s_L_act_209, s_L_act_210, s_L_act_211, s_L_act_212, s_L_act_213, s_L_act_216, s_L_act_218, s_L_act_221, s_L_act_223, s_L_act_224, s_L_act_225, h5, nL24, nL26, nL36, nL48, nL49, nL50, nL60, nL65, nL87, nL90, nL109, nL114, nL115, nL116, nL119, nL200, nL256, nL501, zN_neg1, nL0, nL1, nL2, nL3, nL4, nL5, nL6, nL7, nL8, nL9, nL10, nL11, nL12, nL13, nL14, nL20, nL21, nL22, nL23, nL25, nL32, nL33, nL39, nL40, nL43, nL44, nL99, nL100, nL120, nL216, nL217, nL218, nL219, nL220, nL221, nL500, nL999, nL1000, nL10000, nL100000, sh33, zN_lt, zN_le, zN_eq, zN_ge0, zN_lt0, zN_nm, zN_mn, zN_mlt, zN_ltm, zN_lem, zN_mle, zN_m1, zN_m2, zN_addm, zN_ofNat, zN_beq, zN_add, zN_sub, zN_mul, zN_rem, qT_lt, qF_lt, qT_le, qF_le, qT_eq, qF_eq, ↓reduceIte, and_true, true_and, false_and, and_false, not_true_eq_false, not_false_eq_true, decide_true, decide_false, Bool.true_or, Bool.or_true, Bool.false_or, Bool.or_false, cond_true, cond_false]
        exact lzT (lzE_c (w_ticks hC) (by split <;> omega)) (fun g w => by simp only [s_L_act_228])
      · intro bz hI ho hb
        exact okF_ticks hI ho hb
    · apply Exists.intro
      apply Exists.intro
      constructor
      · intro so g xx w hC
        rw [act_pre so g w xx hx, hT, hw9]
        simp (disch := omega) only [s_L_act_207, s_L_act_208, s_L_act_209, s_L_act_210, s_L_act_211, s_L_act_212, s_L_act_213, s_L_act_216, s_L_act_218, s_L_act_221, s_L_act_223, s_L_act_224, s_L_act_225, h5, nL24, nL26, nL36, nL48, nL49, nL50, nL60, nL65, nL87, nL90, nL109, nL114, nL115, nL116, nL119, nL200, nL256, nL501, zN_neg1, nL0, nL1, nL2, nL3, nL4, nL5, nL6, nL7, nL8, nL9, nL10, nL11, nL12, nL13, nL14, nL20, nL21, nL22, nL23, nL25, nL32, nL33, nL39, nL40, nL43, nL44, nL99, nL100, nL120, nL216, nL217, nL218, nL219, nL220, nL221, nL500, nL999, nL1000, nL10000, nL100000, sh33, zN_lt, zN_le, zN_eq, zN_ge0, zN_lt0, zN_nm, zN_mn, zN_mlt, zN_ltm, zN_lem, zN_mle, zN_m1, zN_m2, zN_addm, zN_ofNat, zN_beq, zN_add, zN_sub, zN_mul, zN_rem, qT_lt, qF_lt, qT_le, qF_le, qT_eq, qF_eq, ↓reduceIte, and_true, true_and, false_and, and_false, not_true_eq_false, not_false_eq_true, decide_true, decide_false, Bool.true_or, Bool.or_true, Bool.false_or, Bool.or_false, cond_true, cond_false]
        exact lzT (lzE_c (w_ticks hC) (by split <;> omega)) (fun g w => by simp only [s_L_act_228])
      · intro bz hI ho hb
        exact okF_ticks hI ho hb
  · by_cases h5 : w9 - w9 / zN 3 * zN 3 = zN 0
    · refine ⟨(fBack Fq).2, (fBack Fq).1.2.toInt64, ?_, ?_⟩
      · intro so g xx w hC
        rw [act_pre so g w xx hx, hT, hw9]
        simp (disch := omega) only [s_L_act_229, s_L_act_230, s_L_act_231, s_L_act_232, s_L_act_235, s_L_act_236, h5, nL24, nL26, nL36, nL48, nL49, nL50, nL60, nL65, nL87, nL90, nL109, nL114, nL115, nL116, nL119, nL200, nL256, nL501, zN_neg1, nL0, nL1, nL2, nL3, nL4, nL5, nL6, nL7, nL8, nL9, nL10, nL11, nL12, nL13, nL14, nL20, nL21, nL22, nL23, nL25, nL32, nL33, nL39, nL40, nL43, nL44, nL99, nL100, nL120, nL216, nL217, nL218, nL219, nL220, nL221, nL500, nL999, nL1000, nL10000, nL100000, sh33, zN_lt, zN_le, zN_eq, zN_ge0, zN_lt0, zN_nm, zN_mn, zN_mlt, zN_ltm, zN_lem, zN_mle, zN_m1, zN_m2, zN_addm, zN_ofNat, zN_beq, zN_add, zN_sub, zN_mul, zN_rem, qT_lt, qF_lt, qT_le, qF_le, qT_eq, qF_eq, ↓reduceIte, and_true, true_and, false_and, and_false, not_true_eq_false, not_false_eq_true, decide_true, decide_false, Bool.true_or, Bool.or_true, Bool.false_or, Bool.or_false, cond_true, cond_false]
        rw [show pwIsC w xx 6 = true from ci_ hC.1, cond_true]
        refine lzC0 (d_back hC) (fun g w hC hf => ?_)
        simp only [s_L_act_239, s_L_act_240, s_L_act_243, s_L_act_246]
        exact lzR hC
      · intro bz hI ho hb
        exact okF_le (okF_back ho) (by omega)
    · refine ⟨Fq, -1, ?_, ?_⟩
      · intro so g xx w hC
        rw [act_pre so g w xx hx, hT, hw9]
        simp (disch := omega) only [s_L_act_229, s_L_act_230, s_L_act_231, s_L_act_232, s_L_act_235, s_L_act_236, s_L_act_239, s_L_act_240, s_L_act_243, s_L_act_246, h5, nL24, nL26, nL36, nL48, nL49, nL50, nL60, nL65, nL87, nL90, nL109, nL114, nL115, nL116, nL119, nL200, nL256, nL501, zN_neg1, nL0, nL1, nL2, nL3, nL4, nL5, nL6, nL7, nL8, nL9, nL10, nL11, nL12, nL13, nL14, nL20, nL21, nL22, nL23, nL25, nL32, nL33, nL39, nL40, nL43, nL44, nL99, nL100, nL120, nL216, nL217, nL218, nL219, nL220, nL221, nL500, nL999, nL1000, nL10000, nL100000, sh33, zN_lt, zN_le, zN_eq, zN_ge0, zN_lt0, zN_nm, zN_mn, zN_mlt, zN_ltm, zN_lem, zN_mle, zN_m1, zN_m2, zN_addm, zN_ofNat, zN_beq, zN_add, zN_sub, zN_mul, zN_rem, qT_lt, qF_lt, qT_le, qF_le, qT_eq, qF_eq, ↓reduceIte, and_true, true_and, false_and, and_false, not_true_eq_false, not_false_eq_true, decide_true, decide_false, Bool.true_or, Bool.or_true, Bool.false_or, Bool.or_false, cond_true, cond_false]
        exact lzR hC
      · intro bz hI ho hb
        exact okF_le ho (by omega)
  · apply Exists.intro
    apply Exists.intro
    constructor
    · intro so g xx w hC
      rw [act_pre so g w xx hx, hT, hw9]
      simp (disch := omega) only [s_L_act_247, s_L_act_248, nL24, nL26, nL36, nL48, nL49, nL50, nL60, nL65, nL87, nL90, nL109, nL114, nL115, nL116, nL119, nL200, nL256, nL501, zN_neg1, nL0, nL1, nL2, nL3, nL4, nL5, nL6, nL7, nL8, nL9, nL10, nL11, nL12, nL13, nL14, nL20, nL21, nL22, nL23, nL25, nL32, nL33, nL39, nL40, nL43, nL44, nL99, nL100, nL120, nL216, nL217, nL218, nL219, nL220, nL221, nL500, nL999, nL1000, nL10000, nL100000, sh33, zN_lt, zN_le, zN_eq, zN_ge0, zN_lt0, zN_nm, zN_mn, zN_mlt, zN_ltm, zN_lem, zN_mle, zN_m1, zN_m2, zN_addm, zN_ofNat, zN_beq, zN_add, zN_sub, zN_mul, zN_rem, qT_lt, qF_lt, qT_le, qF_le, qT_eq, qF_eq, ↓reduceIte, and_true, true_and, false_and, and_false, not_true_eq_false, not_false_eq_true, decide_true, decide_false, Bool.true_or, Bool.or_true, Bool.false_or, Bool.or_false, cond_true, cond_false]
      exact lzT (lzE_c (w_undo hC) (by split <;> omega)) (fun g w => by simp only [s_L_act_251])
    · intro bz hI ho hb
      exact okF_le (okF_undo ho) (by omega)
  · by_cases h5 : w9 - w9 / zN 2 * zN 2 = zN 0
    · apply Exists.intro
      apply Exists.intro
      constructor
      · intro so g xx w hC
        rw [act_pre so g w xx hx, hT, hw9]
        simp (disch := omega) only [s_L_act_252, s_L_act_253, s_L_act_254, s_L_act_255, s_L_act_258, s_L_act_259, s_L_act_260, s_L_act_261, s_L_act_262, s_L_act_263, s_L_act_264, h5, nL24, nL26, nL36, nL48, nL49, nL50, nL60, nL65, nL87, nL90, nL109, nL114, nL115, nL116, nL119, nL200, nL256, nL501, zN_neg1, nL0, nL1, nL2, nL3, nL4, nL5, nL6, nL7, nL8, nL9, nL10, nL11, nL12, nL13, nL14, nL20, nL21, nL22, nL23, nL25, nL32, nL33, nL39, nL40, nL43, nL44, nL99, nL100, nL120, nL216, nL217, nL218, nL219, nL220, nL221, nL500, nL999, nL1000, nL10000, nL100000, sh33, zN_lt, zN_le, zN_eq, zN_ge0, zN_lt0, zN_nm, zN_mn, zN_mlt, zN_ltm, zN_lem, zN_mle, zN_m1, zN_m2, zN_addm, zN_ofNat, zN_beq, zN_add, zN_sub, zN_mul, zN_rem, qT_lt, qF_lt, qT_le, qF_le, qT_eq, qF_eq, ↓reduceIte, and_true, true_and, false_and, and_false, not_true_eq_false, not_false_eq_true, decide_true, decide_false, Bool.true_or, Bool.or_true, Bool.false_or, Bool.or_false, cond_true, cond_false]
        exact lzT (lzE_c (w_save hC) (by split <;> omega)) (fun g w => by simp only [s_L_act_267, s_L_act_270, s_L_act_271, s_L_act_272, s_L_act_273, s_L_act_274, s_L_act_275, s_L_act_276, s_L_act_279])
      · intro bz hI ho hb
        exact okF_le (okF_save ho) (by omega)
    · apply Exists.intro
      apply Exists.intro
      constructor
      · intro so g xx w hC
        rw [act_pre so g w xx hx, hT, hw9]
        simp (disch := omega) only [s_L_act_252, s_L_act_253, s_L_act_254, s_L_act_255, s_L_act_258, s_L_act_259, s_L_act_260, s_L_act_261, s_L_act_262, s_L_act_263, s_L_act_264, s_L_act_267, s_L_act_270, s_L_act_271, s_L_act_272, s_L_act_273, s_L_act_274, s_L_act_275, s_L_act_276, h5, nL24, nL26, nL36, nL48, nL49, nL50, nL60, nL65, nL87, nL90, nL109, nL114, nL115, nL116, nL119, nL200, nL256, nL501, zN_neg1, nL0, nL1, nL2, nL3, nL4, nL5, nL6, nL7, nL8, nL9, nL10, nL11, nL12, nL13, nL14, nL20, nL21, nL22, nL23, nL25, nL32, nL33, nL39, nL40, nL43, nL44, nL99, nL100, nL120, nL216, nL217, nL218, nL219, nL220, nL221, nL500, nL999, nL1000, nL10000, nL100000, sh33, zN_lt, zN_le, zN_eq, zN_ge0, zN_lt0, zN_nm, zN_mn, zN_mlt, zN_ltm, zN_lem, zN_mle, zN_m1, zN_m2, zN_addm, zN_ofNat, zN_beq, zN_add, zN_sub, zN_mul, zN_rem, qT_lt, qF_lt, qT_le, qF_le, qT_eq, qF_eq, ↓reduceIte, and_true, true_and, false_and, and_false, not_true_eq_false, not_false_eq_true, decide_true, decide_false, Bool.true_or, Bool.or_true, Bool.false_or, Bool.or_false, cond_true, cond_false]
        exact lzT (lzE_c (w_restore hC) (by split <;> omega)) (fun g w => by simp only [s_L_act_267, s_L_act_270, s_L_act_271, s_L_act_272, s_L_act_273, s_L_act_274, s_L_act_275, s_L_act_276, s_L_act_279])
      · intro bz hI ho hb
        exact okF_le (okF_rest ho) (by omega)
end QA
