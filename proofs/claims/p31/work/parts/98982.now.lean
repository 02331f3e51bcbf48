/-! the pure part: now(): all that is told of a town, as one number -/
def hM (fz : Nat → Int64 → Int64) : Nat → Nat → Int64 → Int64
  | 0, _, vz => vz
  | dq + 1, kq, vz => hM fz dq (kq + 1) (fz kq vz)
def h1N (Aq : TA) (kq : Nat) (vz : Int64) : Int64 := 31 * vz + (aTold Aq kq).toInt64
def h2N (Aq : TA) (aq kq : Nat) (vz : Int64) : Int64 := 31 * vz + (aWk Aq aq kq).toInt64
def h3N (Aq : TA) (sq kq : Nat) (vz : Int64) : Int64 := 31 * vz + (aSt Aq sq kq).toInt64
def h4N (Aq : TA) (sq iq : Nat) (vz : Int64) : Int64 := 31 * vz + (aRead Aq sq iq).toInt64
def hWk (Aq : TA) (aq : Nat) (vz : Int64) : Int64 := hM (h2N Aq aq) 6 0 vz
def hSt (Aq : TA) (sq : Nat) (vz : Int64) : Int64 := hM (h4N Aq sq) (tL Aq (8 + sq)).length 0 (hM (h3N Aq sq) 10 0 vz)
def hNow (Aq : TA) : Int64 := hM (hSt Aq) (tN Aq 0) 0 (hM (hWk Aq) (tN Aq 1) 0 (hM (h1N Aq) 13 0 113))
section QA
variable {so : Nat → Nat} {g : pwG} {xx cq : Nat} {w w1 : pwW} {vq : Value} {Fq F1 : FS}
theorem lcs_ {xq : Int64} : lg_cmp xq xq = zN 0 := by
  have h1 := (lg_cmp_le xq xq).mpr (Int64.le_refl xq)
  have h2 := (lg_cmp_ge xq xq).mpr (Int64.le_refl xq)
  exact Int32.le_antisymm h1 h2
theorem ab_ok {kq : Nat} (h : kq ≤ 12) : fAbout Fq (zN kq) = (0, aTold Fq.2.1 kq) := by
  unfold fAbout
  rw [zN_toInt (by omega), if_pos (by omega), un_zN (by omega)]
theorem wk_ok {aq kq : Nat} (hC : clsW xx Fq w) (ha : aq < tN Fq.2.1 1) (h : kq ≤ 5) : fWalkerOf Fq (zN aq) (zN kq) = (0, aWk Fq.2.1 aq kq) := by
  have h4 := hC.2.1.1.1
  unfold fWalkerOf
  rw [if_pos ⟨by rw [zN_toInt (by omega)]; omega, by rw [zN_toInt (by omega)]; omega⟩, zN_toInt (by omega : kq < 2147483648), if_pos (by omega), un_zN (by omega), un_zN (by omega)]
theorem st_ok {sq kq : Nat} (hC : clsW xx Fq w) (hs : sq < tN Fq.2.1 0) (h : kq ≤ 9) : fStreetOf Fq (zN sq) (zN kq) = (0, aSt Fq.2.1 sq kq) := by
  have h4 := hC.2.1.1.1
  unfold fStreetOf
  rw [if_pos ⟨by rw [zN_toInt (by omega)]; omega, by rw [zN_toInt (by omega)]; omega⟩, zN_toInt (by omega : kq < 2147483648), if_pos (by omega), un_zN (by omega), un_zN (by omega)]
theorem rd_ok {sq iq : Nat} (hC : clsW xx Fq w) (hs : sq < tN Fq.2.1 0) (h : iq < 2147483648) : fRead Fq (zN sq) (zN iq) = (0, aRead Fq.2.1 sq iq) := by
  have h4 := hC.2.1.1.1
  unfold fRead
  rw [if_pos ⟨by rw [zN_toInt (by omega)]; omega, by rw [zN_toInt (by omega)]; omega⟩, zN_toInt h, if_pos (by omega), un_zN (by omega), un_zN h]
theorem nw6 : ∀ (dq kq : Nat) (vz : Int64) (g : pwG) (w : pwW), kq + dq = 13 → clsW xx Fq w → (∀ (g : pwG) (w1 : pwW), clsW xx Fq w1 → frm xx w w1 → lzE xx g w1 F1 cq vq (pwX so 155 30 [some (.ref xx), some (.long (hM (h1N Fq.2.1) dq kq vz)), none, some (.int (zN 13)), none] [] g w1)) → lzE xx g w F1 cq vq (pwX so 155 6 [some (.ref xx), some (.long vz), none, some (.int (zN kq)), none] [] g w) := by
  intro dq
  induction dq with
  | zero =>
    intro kq vz g w h1 hC hk
    have h1 : kq = 13 := by omega
    subst h1
    have h2 := hk g w hC frm_s
    rw [show hM (h1N Fq.2.1) 0 13 vz = vz from rfl] at h2
    have n13 : (13 : Int32) = zN 13 := rfl
    simp (disch := omega) only [s_L_now_6, s_L_now_7, s_L_now_9, n13, zN_neg1, nL0, nL1, nL2, nL3, nL4, nL5, nL6, nL7, nL8, nL9, nL10, nL11, nL12, nL13, nL14, nL20, nL21, nL22, nL23, nL25, nL32, nL33, nL39, nL40, nL43, nL44, nL99, nL100, nL120, nL216, nL217, nL218, nL219, nL220, nL221, nL500, nL999, nL1000, nL10000, nL100000, sh33, zN_lt, zN_le, zN_eq, zN_ge0, zN_lt0, zN_nm, zN_mn, zN_mlt, zN_ltm, zN_lem, zN_mle, zN_m1, zN_m2, zN_addm, zN_ofNat, zN_beq, zN_add, zN_sub, zN_mul, zN_rem, qT_lt, qF_lt, qT_le, qF_le, qT_eq, qF_eq, ↓reduceIte, and_true, true_and, false_and, and_false, not_true_eq_false, not_false_eq_true, decide_true, decide_false, Bool.true_or, Bool.or_true, Bool.false_or, Bool.or_false, cond_true, cond_false]
    exact h2
  | succ dq ih =>
    intro kq vz g w h1 hC hk
    have n13 : (13 : Int32) = zN 13 := rfl
    simp (disch := omega) only [s_L_now_6, s_L_now_7, s_L_now_9, s_L_now_12, s_L_now_15, s_L_now_16, s_L_now_17, s_L_now_18, s_L_now_19, n13, zN_neg1, nL0, nL1, nL2, nL3, nL4, nL5, nL6, nL7, nL8, nL9, nL10, nL11, nL12, nL13, nL14, nL20, nL21, nL22, nL23, nL25, nL32, nL33, nL39, nL40, nL43, nL44, nL99, nL100, nL120, nL216, nL217, nL218, nL219, nL220, nL221, nL500, nL999, nL1000, nL10000, nL100000, sh33, zN_lt, zN_le, zN_eq, zN_ge0, zN_lt0, zN_nm, zN_mn, zN_mlt, zN_ltm, zN_lem, zN_mle, zN_m1, zN_m2, zN_addm, zN_ofNat, zN_beq, zN_add, zN_sub, zN_mul, zN_rem, qT_lt, qF_lt, qT_le, qF_le, qT_eq, qF_eq, ↓reduceIte, and_true, true_and, false_and, and_false, not_true_eq_false, not_false_eq_true, decide_true, decide_false, Bool.true_or, Bool.or_true, Bool.false_or, Bool.or_false, cond_true, cond_false]
    refine lzC0 (v_about (ab_ok (by omega)) hC) (fun g w1 hC1 hf => ?_)
    simp (disch := omega) only [s_L_now_22, s_L_now_23, s_L_now_24, s_L_now_27, zN_neg1, nL0, nL1, nL2, nL3, nL4, nL5, nL6, nL7, nL8, nL9, nL10, nL11, nL12, nL13, nL14, nL20, nL21, nL22, nL23, nL25, nL32, nL33, nL39, nL40, nL43, nL44, nL99, nL100, nL120, nL216, nL217, nL218, nL219, nL220, nL221, nL500, nL999, nL1000, nL10000, nL100000, sh33, zN_lt, zN_le, zN_eq, zN_ge0, zN_lt0, zN_nm, zN_mn, zN_mlt, zN_ltm, zN_lem, zN_mle, zN_m1, zN_m2, zN_addm, zN_ofNat, zN_beq, zN_add, zN_sub, zN_mul, zN_rem, qT_lt, qF_lt, qT_le, qF_le, qT_eq, qF_eq, ↓reduceIte, and_true, true_and, false_and, and_false, not_true_eq_false, not_false_eq_true, decide_true, decide_false, Bool.true_or, Bool.or_true, Bool.false_or, Bool.or_false, cond_true, cond_false]
    exact ih (kq + 1) _ g w1 (by omega) hC1 (fun g w2 hC2 hf2 => hk g w2 hC2 (frm_t hf hf2))
theorem nw46 {aq : Nat} (ha : aq < tN Fq.2.1 1) : ∀ (dq kq : Nat) (vz : Int64) (g : pwG) (w : pwW), kq + dq = 6 → clsW xx Fq w → (∀ (g : pwG) (w1 : pwW), clsW xx Fq w1 → frm xx w w1 → lzE xx g w1 F1 cq vq (pwX so 155 73 [some (.ref xx), some (.long (hM (h2N Fq.2.1 aq) dq kq vz)), none, some (.int (zN aq)), some (.int (zN 6))] [] g w1)) → lzE xx g w F1 cq vq (pwX so 155 46 [some (.ref xx), some (.long vz), none, some (.int (zN aq)), some (.int (zN kq))] [] g w) := by
  intro dq
  induction dq with
  | zero =>
    intro kq vz g w h1 hC hk
    have h1 : kq = 6 := by omega
    subst h1
    have h2 := hk g w hC frm_s
    rw [show hM (h2N Fq.2.1 aq) 0 6 vz = vz from rfl] at h2
    simp (disch := omega) only [s_L_now_46, s_L_now_48, s_L_now_50, zN_neg1, nL0, nL1, nL2, nL3, nL4, nL5, nL6, nL7, nL8, nL9, nL10, nL11, nL12, nL13, nL14, nL20, nL21, nL22, nL23, nL25, nL32, nL33, nL39, nL40, nL43, nL44, nL99, nL100, nL120, nL216, nL217, nL218, nL219, nL220, nL221, nL500, nL999, nL1000, nL10000, nL100000, sh33, zN_lt, zN_le, zN_eq, zN_ge0, zN_lt0, zN_nm, zN_mn, zN_mlt, zN_ltm, zN_lem, zN_mle, zN_m1, zN_m2, zN_addm, zN_ofNat, zN_beq, zN_add, zN_sub, zN_mul, zN_rem, qT_lt, qF_lt, qT_le, qF_le, qT_eq, qF_eq, ↓reduceIte, and_true, true_and, false_and, and_false, not_true_eq_false, not_false_eq_true, decide_true, decide_false, Bool.true_or, Bool.or_true, Bool.false_or, Bool.or_false, cond_true, cond_false]
    exact h2
  | succ dq ih =>
    intro kq vz g w h1 hC hk
    simp (disch := omega) only [s_L_now_46, s_L_now_48, s_L_now_50, s_L_now_53, s_L_now_56, s_L_now_57, s_L_now_58, s_L_now_59, s_L_now_60, s_L_now_62, zN_neg1, nL0, nL1, nL2, nL3, nL4, nL5, nL6, nL7, nL8, nL9, nL10, nL11, nL12, nL13, nL14, nL20, nL21, nL22, nL23, nL25, nL32, nL33, nL39, nL40, nL43, nL44, nL99, nL100, nL120, nL216, nL217, nL218, nL219, nL220, nL221, nL500, nL999, nL1000, nL10000, nL100000, sh33, zN_lt, zN_le, zN_eq, zN_ge0, zN_lt0, zN_nm, zN_mn, zN_mlt, zN_ltm, zN_lem, zN_mle, zN_m1, zN_m2, zN_addm, zN_ofNat, zN_beq, zN_add, zN_sub, zN_mul, zN_rem, qT_lt, qF_lt, qT_le, qF_le, qT_eq, qF_eq, ↓reduceIte, and_true, true_and, false_and, and_false, not_true_eq_false, not_false_eq_true, decide_true, decide_false, Bool.true_or, Bool.or_true, Bool.false_or, Bool.or_false, cond_true, cond_false]
    refine lzC0 (v_walkerOf (wk_ok hC ha (by omega)) hC) (fun g w1 hC1 hf => ?_)
    simp (disch := omega) only [s_L_now_65, s_L_now_66, s_L_now_67, s_L_now_70, zN_neg1, nL0, nL1, nL2, nL3, nL4, nL5, nL6, nL7, nL8, nL9, nL10, nL11, nL12, nL13, nL14, nL20, nL21, nL22, nL23, nL25, nL32, nL33, nL39, nL40, nL43, nL44, nL99, nL100, nL120, nL216, nL217, nL218, nL219, nL220, nL221, nL500, nL999, nL1000, nL10000, nL100000, sh33, zN_lt, zN_le, zN_eq, zN_ge0, zN_lt0, zN_nm, zN_mn, zN_mlt, zN_ltm, zN_lem, zN_mle, zN_m1, zN_m2, zN_addm, zN_ofNat, zN_beq, zN_add, zN_sub, zN_mul, zN_rem, qT_lt, qF_lt, qT_le, qF_le, qT_eq, qF_eq, ↓reduceIte, and_true, true_and, false_and, and_false, not_true_eq_false, not_false_eq_true, decide_true, decide_false, Bool.true_or, Bool.or_true, Bool.false_or, Bool.or_false, cond_true, cond_false]
    exact ih (kq + 1) _ g w1 (by omega) hC1 (fun g w2 hC2 hf2 => hk g w2 hC2 (frm_t hf hf2))
theorem nw32 : ∀ (dq aq : Nat) (vz : Int64) (g : pwG) (w : pwW) (o4 : Option Value), aq + dq = tN Fq.2.1 1 → clsW xx Fq w → (∀ (g : pwG) (w1 : pwW) (o4 : Option Value), clsW xx Fq w1 → frm xx w w1 → lzE xx g w1 F1 cq vq (pwX so 155 79 [some (.ref xx), some (.long (hM (hWk Fq.2.1) dq aq vz)), none, some (.int (zN (tN Fq.2.1 1))), o4] [] g w1)) → lzE xx g w F1 cq vq (pwX so 155 32 [some (.ref xx), some (.long vz), none, some (.int (zN aq)), o4] [] g w) := by
  intro dq
  induction dq with
  | zero =>
    intro aq vz g w o4 h1 hC hk
    have h4 := hC.2.1.1.1
    have h1 : aq = tN Fq.2.1 1 := by omega
    subst h1
    rw [s_L_now_32]
    simp (disch := omega) only [s_L_now_33, s_L_now_34, s_L_now_35, s_L_now_36, zN_neg1, nL0, nL1, nL2, nL3, nL4, nL5, nL6, nL7, nL8, nL9, nL10, nL11, nL12, nL13, nL14, nL20, nL21, nL22, nL23, nL25, nL32, nL33, nL39, nL40, nL43, nL44, nL99, nL100, nL120, nL216, nL217, nL218, nL219, nL220, nL221, nL500, nL999, nL1000, nL10000, nL100000]
    refine lzC0 (v_about (vz := zN (tN Fq.2.1 1)) (ab_ok (kq := 0) (by omega)) hC) (fun g w1 hC1 hf => ?_)
    simp (disch := omega) only [s_L_now_39, s_L_now_40, zN_neg1, nL0, nL1, nL2, nL3, nL4, nL5, nL6, nL7, nL8, nL9, nL10, nL11, nL12, nL13, nL14, nL20, nL21, nL22, nL23, nL25, nL32, nL33, nL39, nL40, nL43, nL44, nL99, nL100, nL120, nL216, nL217, nL218, nL219, nL220, nL221, nL500, nL999, nL1000, nL10000, nL100000, lcs_, sh33, zN_lt, zN_le, zN_eq, zN_ge0, zN_lt0, zN_nm, zN_mn, zN_mlt, zN_ltm, zN_lem, zN_mle, zN_m1, zN_m2, zN_addm, zN_ofNat, zN_beq, zN_add, zN_sub, zN_mul, zN_rem, qT_lt, qF_lt, qT_le, qF_le, qT_eq, qF_eq, ↓reduceIte, and_true, true_and, false_and, and_false, not_true_eq_false, not_false_eq_true, decide_true, decide_false, Bool.true_or, Bool.or_true, Bool.false_or, Bool.or_false, cond_true, cond_false]
    exact hk g w1 o4 hC1 hf
  | succ dq ih =>
    intro aq vz g w o4 h1 hC hk
    have h4 := hC.2.1.1.1
    rw [s_L_now_32]
    simp (disch := omega) only [s_L_now_33, s_L_now_34, s_L_now_35, s_L_now_36, zN_neg1, nL0, nL1, nL2, nL3, nL4, nL5, nL6, nL7, nL8, nL9, nL10, nL11, nL12, nL13, nL14, nL20, nL21, nL22, nL23, nL25, nL32, nL33, nL39, nL40, nL43, nL44, nL99, nL100, nL120, nL216, nL217, nL218, nL219, nL220, nL221, nL500, nL999, nL1000, nL10000, nL100000]
    refine lzC0 (v_about (vz := zN (tN Fq.2.1 1)) (ab_ok (kq := 0) (by omega)) hC) (fun g w1 hC1 hf => ?_)
    simp (disch := omega) only [s_L_now_39, s_L_now_40, s_L_now_43, s_L_now_44, zN_neg1, nL0, nL1, nL2, nL3, nL4, nL5, nL6, nL7, nL8, nL9, nL10, nL11, nL12, nL13, nL14, nL20, nL21, nL22, nL23, nL25, nL32, nL33, nL39, nL40, nL43, nL44, nL99, nL100, nL120, nL216, nL217, nL218, nL219, nL220, nL221, nL500, nL999, nL1000, nL10000, nL100000, lcGe0, i2l, zN_toInt, iT_le, iF_le, ↓reduceIte]
    refine nw46 (by omega) 6 0 vz g w1 (by omega) hC1 (fun g w2 hC2 hf2 => ?_)
    simp (disch := omega) only [s_L_now_73, s_L_now_76, zN_neg1, nL0, nL1, nL2, nL3, nL4, nL5, nL6, nL7, nL8, nL9, nL10, nL11, nL12, nL13, nL14, nL20, nL21, nL22, nL23, nL25, nL32, nL33, nL39, nL40, nL43, nL44, nL99, nL100, nL120, nL216, nL217, nL218, nL219, nL220, nL221, nL500, nL999, nL1000, nL10000, nL100000, zN_add]
    exact ih (aq + 1) _ g w2 _ (by omega) hC2 (fun g w3 o4 hC3 hf3 => hk g w3 o4 hC3 (frm_t (frm_t hf hf2) hf3))
theorem nw95 {sq : Nat} (hs : sq < tN Fq.2.1 0) : ∀ (dq kq : Nat) (vz : Int64) (g : pwG) (w : pwW), kq + dq = 10 → clsW xx Fq w → (∀ (g : pwG) (w1 : pwW), clsW xx Fq w1 → frm xx w w1 → lzE xx g w1 F1 cq vq (pwX so 155 122 [some (.ref xx), some (.long (hM (h3N Fq.2.1 sq) dq kq vz)), none, some (.int (zN sq)), some (.int (zN 10))] [] g w1)) → lzE xx g w F1 cq vq (pwX so 155 95 [some (.ref xx), some (.long vz), none, some (.int (zN sq)), some (.int (zN kq))] [] g w) := by
  intro dq
  induction dq with
  | zero =>
    intro kq vz g w h1 hC hk
    have h1 : kq = 10 := by omega
    subst h1
    have h2 := hk g w hC frm_s
    rw [show hM (h3N Fq.2.1 sq) 0 10 vz = vz from rfl] at h2
    simp (disch := omega) only [s_L_now_95, s_L_now_97, s_L_now_99, zN_neg1, nL0, nL1, nL2, nL3, nL4, nL5, nL6, nL7, nL8, nL9, nL10, nL11, nL12, nL13, nL14, nL20, nL21, nL22, nL23, nL25, nL32, nL33, nL39, nL40, nL43, nL44, nL99, nL100, nL120, nL216, nL217, nL218, nL219, nL220, nL221, nL500, nL999, nL1000, nL10000, nL100000, sh33, zN_lt, zN_le, zN_eq, zN_ge0, zN_lt0, zN_nm, zN_mn, zN_mlt, zN_ltm, zN_lem, zN_mle, zN_m1, zN_m2, zN_addm, zN_ofNat, zN_beq, zN_add, zN_sub, zN_mul, zN_rem, qT_lt, qF_lt, qT_le, qF_le, qT_eq, qF_eq, ↓reduceIte, and_true, true_and, false_and, and_false, not_true_eq_false, not_false_eq_true, decide_true, decide_false, Bool.true_or, Bool.or_true, Bool.false_or, Bool.or_false, cond_true, cond_false]
    exact h2
  | succ dq ih =>
    intro kq vz g w h1 hC hk
    simp (disch := omega) only [s_L_now_95, s_L_now_97, s_L_now_99, s_L_now_102, s_L_now_105, s_L_now_106, s_L_now_107, s_L_now_108, s_L_now_109, s_L_now_111, zN_neg1, nL0, nL1, nL2, nL3, nL4, nL5, nL6, nL7, nL8, nL9, nL10, nL11, nL12, nL13, nL14, nL20, nL21, nL22, nL23, nL25, nL32, nL33, nL39, nL40, nL43, nL44, nL99, nL100, nL120, nL216, nL217, nL218, nL219, nL220, nL221, nL500, nL999, nL1000, nL10000, nL100000, sh33, zN_lt, zN_le, zN_eq, zN_ge0, zN_lt0, zN_nm, zN_mn, zN_mlt, zN_ltm, zN_lem, zN_mle, zN_m1, zN_m2, zN_addm, zN_ofNat, zN_beq, zN_add, zN_sub, zN_mul, zN_rem, qT_lt, qF_lt, qT_le, qF_le, qT_eq, qF_eq, ↓reduceIte, and_true, true_and, false_and, and_false, not_true_eq_false, not_false_eq_true, decide_true, decide_false, Bool.true_or, Bool.or_true, Bool.false_or, Bool.or_false, cond_true, cond_false]
    refine lzC0 (v_streetOf (st_ok hC hs (by omega)) hC) (fun g w1 hC1 hf => ?_)
    simp (disch := omega) only [s_L_now_114, s_L_now_115, s_L_now_116, s_L_now_119, zN_neg1, nL0, nL1, nL2, nL3, nL4, nL5, nL6, nL7, nL8, nL9, nL10, nL11, nL12, nL13, nL14, nL20, nL21, nL22, nL23, nL25, nL32, nL33, nL39, nL40, nL43, nL44, nL99, nL100, nL120, nL216, nL217, nL218, nL219, nL220, nL221, nL500, nL999, nL1000, nL10000, nL100000, sh33, zN_lt, zN_le, zN_eq, zN_ge0, zN_lt0, zN_nm, zN_mn, zN_mlt, zN_ltm, zN_lem, zN_mle, zN_m1, zN_m2, zN_addm, zN_ofNat, zN_beq, zN_add, zN_sub, zN_mul, zN_rem, qT_lt, qF_lt, qT_le, qF_le, qT_eq, qF_eq, ↓reduceIte, and_true, true_and, false_and, and_false, not_true_eq_false, not_false_eq_true, decide_true, decide_false, Bool.true_or, Bool.or_true, Bool.false_or, Bool.or_false, cond_true, cond_false]
    exact ih (kq + 1) _ g w1 (by omega) hC1 (fun g w2 hC2 hf2 => hk g w2 hC2 (frm_t hf hf2))
theorem nw125 {sq : Nat} (hs : sq < tN Fq.2.1 0) : ∀ (dq iq : Nat) (vz : Int64) (g : pwG) (w : pwW), iq + dq = (tL Fq.2.1 (8 + sq)).length → clsW xx Fq w → (∀ (g : pwG) (w1 : pwW), clsW xx Fq w1 → frm xx w w1 → lzE xx g w1 F1 cq vq (pwX so 155 159 [some (.ref xx), some (.long (hM (h4N Fq.2.1 sq) dq iq vz)), none, some (.int (zN sq)), some (.int (zN (tL Fq.2.1 (8 + sq)).length))] [] g w1)) → lzE xx g w F1 cq vq (pwX so 155 125 [some (.ref xx), some (.long vz), none, some (.int (zN sq)), some (.int (zN iq))] [] g w) := by
  intro dq
  induction dq with
  | zero =>
    intro iq vz g w h1 hC hk
    have h4 := hC.2.1.1.1
    have hrd := (rd_le hC.2.1.1 hs).1
    have h1 : iq = (tL Fq.2.1 (8 + sq)).length := by omega
    subst h1
    rw [s_L_now_125]
    simp (disch := omega) only [s_L_now_127, s_L_now_128, s_L_now_129, s_L_now_130, s_L_now_132, zN_neg1, nL0, nL1, nL2, nL3, nL4, nL5, nL6, nL7, nL8, nL9, nL10, nL11, nL12, nL13, nL14, nL20, nL21, nL22, nL23, nL25, nL32, nL33, nL39, nL40, nL43, nL44, nL99, nL100, nL120, nL216, nL217, nL218, nL219, nL220, nL221, nL500, nL999, nL1000, nL10000, nL100000]
    refine lzC0 (v_streetOf (vz := zN (tL Fq.2.1 (8 + sq)).length) (st_ok (kq := 8) hC hs (by omega)) hC) (fun g w1 hC1 hf => ?_)
    simp (disch := omega) only [s_L_now_135, s_L_now_136, zN_neg1, nL0, nL1, nL2, nL3, nL4, nL5, nL6, nL7, nL8, nL9, nL10, nL11, nL12, nL13, nL14, nL20, nL21, nL22, nL23, nL25, nL32, nL33, nL39, nL40, nL43, nL44, nL99, nL100, nL120, nL216, nL217, nL218, nL219, nL220, nL221, nL500, nL999, nL1000, nL10000, nL100000, lcs_, sh33, zN_lt, zN_le, zN_eq, zN_ge0, zN_lt0, zN_nm, zN_mn, zN_mlt, zN_ltm, zN_lem, zN_mle, zN_m1, zN_m2, zN_addm, zN_ofNat, zN_beq, zN_add, zN_sub, zN_mul, zN_rem, qT_lt, qF_lt, qT_le, qF_le, qT_eq, qF_eq, ↓reduceIte, and_true, true_and, false_and, and_false, not_true_eq_false, not_false_eq_true, decide_true, decide_false, Bool.true_or, Bool.or_true, Bool.false_or, Bool.or_false, cond_true, cond_false]
    exact hk g w1 hC1 hf
  | succ dq ih =>
    intro iq vz g w h1 hC hk
    have h4 := hC.2.1.1.1
    have hrd := (rd_le hC.2.1.1 hs).1
    rw [s_L_now_125]
    simp (disch := omega) only [s_L_now_127, s_L_now_128, s_L_now_129, s_L_now_130, s_L_now_132, zN_neg1, nL0, nL1, nL2, nL3, nL4, nL5, nL6, nL7, nL8, nL9, nL10, nL11, nL12, nL13, nL14, nL20, nL21, nL22, nL23, nL25, nL32, nL33, nL39, nL40, nL43, nL44, nL99, nL100, nL120, nL216, nL217, nL218, nL219, nL220, nL221, nL500, nL999, nL1000, nL10000, nL100000]
    refine lzC0 (v_streetOf (vz := zN (tL Fq.2.1 (8 + sq)).length) (st_ok (kq := 8) hC hs (by omega)) hC) (fun g w1 hC1 hf => ?_)
    simp (disch := omega) only [s_L_now_135, s_L_now_136, s_L_now_139, s_L_now_142, s_L_now_143, s_L_now_144, s_L_now_145, s_L_now_146, s_L_now_148, zN_neg1, nL0, nL1, nL2, nL3, nL4, nL5, nL6, nL7, nL8, nL9, nL10, nL11, nL12, nL13, nL14, nL20, nL21, nL22, nL23, nL25, nL32, nL33, nL39, nL40, nL43, nL44, nL99, nL100, nL120, nL216, nL217, nL218, nL219, nL220, nL221, nL500, nL999, nL1000, nL10000, nL100000, lcGe0, i2l, zN_toInt, iT_le, iF_le, ↓reduceIte]
    refine lzC0 (v_read (rd_ok hC1 hs (by omega)) hC1) (fun g w2 hC2 hf2 => ?_)
    simp (disch := omega) only [s_L_now_151, s_L_now_152, s_L_now_153, s_L_now_156, zN_neg1, nL0, nL1, nL2, nL3, nL4, nL5, nL6, nL7, nL8, nL9, nL10, nL11, nL12, nL13, nL14, nL20, nL21, nL22, nL23, nL25, nL32, nL33, nL39, nL40, nL43, nL44, nL99, nL100, nL120, nL216, nL217, nL218, nL219, nL220, nL221, nL500, nL999, nL1000, nL10000, nL100000, zN_add]
    exact ih (iq + 1) _ g w2 (by omega) hC2 (fun g w3 hC3 hf3 => hk g w3 hC3 (frm_t (frm_t hf hf2) hf3))
theorem nw81 : ∀ (dq sq : Nat) (vz : Int64) (g : pwG) (w : pwW) (o4 : Option Value), sq + dq = tN Fq.2.1 0 → clsW xx Fq w → (∀ (g : pwG) (w1 : pwW) (o4 : Option Value), clsW xx Fq w1 → frm xx w w1 → lzE xx g w1 F1 cq vq (pwX so 155 165 [some (.ref xx), some (.long (hM (hSt Fq.2.1) dq sq vz)), none, some (.int (zN (tN Fq.2.1 0))), o4] [] g w1)) → lzE xx g w F1 cq vq (pwX so 155 81 [some (.ref xx), some (.long vz), none, some (.int (zN sq)), o4] [] g w) := by
  intro dq
  induction dq with
  | zero =>
    intro sq vz g w o4 h1 hC hk
    have h4 := hC.2.1.1.1
    have h1 : sq = tN Fq.2.1 0 := by omega
    subst h1
    rw [s_L_now_81]
    simp (disch := omega) only [s_L_now_82, s_L_now_83, s_L_now_84, s_L_now_85, zN_neg1, nL0, nL1, nL2, nL3, nL4, nL5, nL6, nL7, nL8, nL9, nL10, nL11, nL12, nL13, nL14, nL20, nL21, nL22, nL23, nL25, nL32, nL33, nL39, nL40, nL43, nL44, nL99, nL100, nL120, nL216, nL217, nL218, nL219, nL220, nL221, nL500, nL999, nL1000, nL10000, nL100000]
    refine lzC0 (v_about (vz := zN (tN Fq.2.1 0)) (ab_ok (kq := 1) (by omega)) hC) (fun g w1 hC1 hf => ?_)
    simp (disch := omega) only [s_L_now_88, s_L_now_89, zN_neg1, nL0, nL1, nL2, nL3, nL4, nL5, nL6, nL7, nL8, nL9, nL10, nL11, nL12, nL13, nL14, nL20, nL21, nL22, nL23, nL25, nL32, nL33, nL39, nL40, nL43, nL44, nL99, nL100, nL120, nL216, nL217, nL218, nL219, nL220, nL221, nL500, nL999, nL1000, nL10000, nL100000, lcs_, sh33, zN_lt, zN_le, zN_eq, zN_ge0, zN_lt0, zN_nm, zN_mn, zN_mlt, zN_ltm, zN_lem, zN_mle, zN_m1, zN_m2, zN_addm, zN_ofNat, zN_beq, zN_add, zN_sub, zN_mul, zN_rem, qT_lt, qF_lt, qT_le, qF_le, qT_eq, qF_eq, ↓reduceIte, and_true, true_and, false_and, and_false, not_true_eq_false, not_false_eq_true, decide_true, decide_false, Bool.true_or, Bool.or_true, Bool.false_or, Bool.or_false, cond_true, cond_false]
    exact hk g w1 o4 hC1 hf
  | succ dq ih =>
    intro sq vz g w o4 h1 hC hk
    have h4 := hC.2.1.1.1
    rw [s_L_now_81]
    simp (disch := omega) only [s_L_now_82, s_L_now_83, s_L_now_84, s_L_now_85, zN_neg1, nL0, nL1, nL2, nL3, nL4, nL5, nL6, nL7, nL8, nL9, nL10, nL11, nL12, nL13, nL14, nL20, nL21, nL22, nL23, nL25, nL32, nL33, nL39, nL40, nL43, nL44, nL99, nL100, nL120, nL216, nL217, nL218, nL219, nL220, nL221, nL500, nL999, nL1000, nL10000, nL100000]
    refine lzC0 (v_about (vz := zN (tN Fq.2.1 0)) (ab_ok (kq := 1) (by omega)) hC) (fun g w1 hC1 hf => ?_)
    simp (disch := omega) only [s_L_now_88, s_L_now_89, s_L_now_92, s_L_now_93, zN_neg1, nL0, nL1, nL2, nL3, nL4, nL5, nL6, nL7, nL8, nL9, nL10, nL11, nL12, nL13, nL14, nL20, nL21, nL22, nL23, nL25, nL32, nL33, nL39, nL40, nL43, nL44, nL99, nL100, nL120, nL216, nL217, nL218, nL219, nL220, nL221, nL500, nL999, nL1000, nL10000, nL100000, lcGe0, i2l, zN_toInt, iT_le, iF_le, ↓reduceIte]
    refine nw95 (by omega) 10 0 vz g w1 (by omega) hC1 (fun g w2 hC2 hf2 => ?_)
    simp (disch := omega) only [s_L_now_122, s_L_now_123, zN_neg1, nL0, nL1, nL2, nL3, nL4, nL5, nL6, nL7, nL8, nL9, nL10, nL11, nL12, nL13, nL14, nL20, nL21, nL22, nL23, nL25, nL32, nL33, nL39, nL40, nL43, nL44, nL99, nL100, nL120, nL216, nL217, nL218, nL219, nL220, nL221, nL500, nL999, nL1000, nL10000, nL100000]
    refine nw125 (by omega) (tL Fq.2.1 (8 + sq)).length 0 _ g w2 (by omega) hC2 (fun g w3 hC3 hf3 => ?_)
    simp (disch := omega) only [s_L_now_159, s_L_now_162, zN_neg1, nL0, nL1, nL2, nL3, nL4, nL5, nL6, nL7, nL8, nL9, nL10, nL11, nL12, nL13, nL14, nL20, nL21, nL22, nL23, nL25, nL32, nL33, nL39, nL40, nL43, nL44, nL99, nL100, nL120, nL216, nL217, nL218, nL219, nL220, nL221, nL500, nL999, nL1000, nL10000, nL100000, zN_add]
    exact ih (sq + 1) _ g w3 _ (by omega) hC3 (fun g w4 o4 hC4 hf4 => hk g w4 o4 hC4 (frm_t (frm_t (frm_t hf hf2) hf3) hf4))
theorem z_now (hC : clsW xx Fq w) : lzE xx g w Fq 0 (.long (hNow Fq.2.1)) (pwX so 155 0 [some (.ref xx), none, none, none, none] [] g w) := by
  simp only [s_L_now_0, s_L_now_3, s_L_now_4, s_L_now_5, nL0]
  refine nw6 13 0 113 g w (by omega) hC (fun g w1 hC1 hf1 => ?_)
  simp only [s_L_now_30, s_L_now_31, nL0]
  refine nw32 (tN Fq.2.1 1) 0 _ g w1 none (by omega) hC1 (fun g w2 o4 hC2 hf2 => ?_)
  simp only [s_L_now_79, s_L_now_80, nL0]
  refine nw81 (tN Fq.2.1 0) 0 _ g w2 _ (by omega) hC2 (fun g w3 o4 hC3 hf3 => ?_)
  simp only [s_L_now_165, s_L_now_166]
  exact lzR hC3
end QA
