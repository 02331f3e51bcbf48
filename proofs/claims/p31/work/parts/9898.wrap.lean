/-! the pure part: ends of a run; the law's wrappers: an answer as a long, a throw as a number -/
theorem qAh {f9 : pwFF} {mi pc pc2 hp hv e9 : Nat} {L : pwLL} {c1 : Nat × pwLL} {st : List Value} {g : pwG} {w : pwW} (h : pwHnd mi pc e9 = some (hp, hv)) (h2 : (pwFr L hv && Nat.blt hv L.length) = true) : pwAft f9 mi pc L (c1, pc2, st) (some (.inr e9, g, w)) = f9 mi hp (L.set hv none) [] g w := by
  unfold pwAft
  dsimp only
  rw [h]
  dsimp only
  rw [h2]
  rfl
def cst (g g1 : pwG) (cq : Nat) : Prop := g1.2.2.1 ≤ g.2.2.1 + cq ∧ g1.2.2.2 ≤ g.2.2.2 + 6 * cq
/-- a run from here ends with the value vq, the class's cells stand for F1, nothing else has changed, at most cq exceptions were made -/
def lzE (xx : Nat) (g : pwG) (w : pwW) (F1 : FS) (cq : Nat) (vq : Value) (X : Option pwO) : Prop := ∃ (g1 : pwG) (w1 : pwW), clsW xx F1 w1 ∧ frm xx w w1 ∧ cst g g1 cq ∧ X = some (.inl (some vq), g1, w1)
/-- an exception as a number -/
def xV (eq : Nat) : Int64 := if eq = 0 then -9000000000000000002 else if eq = 1 then -9000000000000000003 else -9000000000000000001
def lV (ez : Nat → Nat) (rq : Nat × Int32) : Int64 := if rq.1 = 0 then rq.2.toInt64 else xV (ez rq.1)
section QA
variable {so : Nat → Nat} {g : pwG} {xx cq c2 : Nat} {w w1 : pwW} {vq v2 : Value} {Fq F1 F2 : FS}
theorem cst_0 : cst g g cq := ⟨Nat.le_add_right _ _, Nat.le_add_right _ _⟩
theorem cst_t : cst g (thr g) (cq + 1) := ⟨by show g.2.2.1 + 1 ≤ _; omega, by show g.2.2.2 + 6 ≤ _; omega⟩
theorem cst_a {g1 g2 : pwG} (h1 : cst g g1 cq) (h2 : cst g1 g2 c2) : cst g g2 (c2 + cq) := by
  obtain ⟨a1, a2⟩ := h1
  obtain ⟨b1, b2⟩ := h2
  exact ⟨by omega, by omega⟩
theorem cst_m {g1 : pwG} (h : cst g g1 cq) (hc : cq ≤ c2) : cst g g1 c2 := by
  obtain ⟨a1, a2⟩ := h
  exact ⟨by omega, by omega⟩
theorem lzE_c {X : Option pwO} (h : lzE xx g w F1 cq vq X) (hc : cq ≤ c2) : lzE xx g w F1 c2 vq X := by
  obtain ⟨g1, w1, a, b, c, d⟩ := h
  exact ⟨g1, w1, a, b, cst_m c hc, d⟩
theorem lzE_v {X : Option pwO} (hv : vq = v2) (h : lzE xx g w F1 cq vq X) : lzE xx g w F1 cq v2 X := hv ▸ h
/-- the end -/
theorem lzR (hC : clsW xx F1 w) : lzE xx g w F1 cq vq (some (.inl (some vq), g, w)) := ⟨g, w, hC, frm_s, cst_0, rfl⟩
/-- behind a call -/
theorem lzC {mi pc pc2 : Nat} {L : pwLL} {cl : Nat × pwLL} {st : List Value} {X : Option pwO} (h1 : lzE xx g w F1 cq vq X) (h2 : ∀ (g1 : pwG) (w1 : pwW), clsW xx F1 w1 → frm xx w w1 → lzE xx g1 w1 F2 c2 v2 (pwX so mi pc2 L (vq :: st) g1 w1)) : lzE xx g w F2 (c2 + cq) v2 (pwAft (pwX so) mi pc L (cl, pc2, st) X) := by
  obtain ⟨g1, w1, a, b, c, d⟩ := h1
  obtain ⟨g3, w3, a3, b3, c3, d3⟩ := h2 g1 w1 a b
  refine ⟨g3, w3, a3, frm_t b b3, cst_a c c3, ?_⟩
  rw [d, qAv]
  exact d3
theorem lzC0 {mi pc pc2 : Nat} {L : pwLL} {cl : Nat × pwLL} {st : List Value} {X : Option pwO} (h1 : lzE xx g w F1 0 vq X) (h2 : ∀ (g1 : pwG) (w1 : pwW), clsW xx F1 w1 → frm xx w w1 → lzE xx g1 w1 F2 c2 v2 (pwX so mi pc2 L (vq :: st) g1 w1)) : lzE xx g w F2 c2 v2 (pwAft (pwX so) mi pc L (cl, pc2, st) X) := lzC h1 h2
theorem lzX {X Y : Option pwO} (h : X = Y) (h1 : lzE xx g w F1 cq vq Y) : lzE xx g w F1 cq vq X := h ▸ h1
theorem lV_0 {ez : Nat → Nat} {rq : Nat × Int32} {vz : Int32} (h : rq = (0, vz)) : lV ez rq = vz.toInt64 := by rw [h]; rfl
theorem lV_s {ez : Nat → Nat} {rq : Nat × Int32} {kz : Nat} {vz : Int32} (h : rq = (kz + 1, vz)) : lV ez rq = xV (ez (kz + 1)) := by rw [h]; rfl
theorem cd_append {kq : Int32} : (fApp Fq kq).1.1 ≤ 2 := by
  unfold fApp
  (repeat' split) <;> first | exact Nat.zero_le _ | exact (by decide : 1 ≤ 2) | exact (by decide : 2 ≤ 2) | exact (by decide : 3 ≤ 2)
theorem hn_append_1 : pwHnd 132 2 0 = some (8, 2) := by decide +kernel
theorem hn_append_2 : pwHnd 132 2 1 = some (13, 2) := by decide +kernel
theorem w_append {kq : Int32} (hC : clsW xx Fq w) : lzE xx g w (fApp Fq kq).2 (if (fApp Fq kq).1.1 = 0 then 0 else 1) (.long (lV (fun jq => if jq = 1 then 0 else 1) (fApp Fq kq).1)) (pwX so 132 0 [some (.ref xx), some (.int kq), none] [] g w) := by
  obtain ⟨w1, a1, a2, a3⟩ := x_app (so := so) (g := g) (xx := xx) (w := w) (Fq := Fq) (kq := kq) hC
  have i6 : pwIsC w xx 6 = true := ci_ hC.1
  have hcd := cd_append (Fq := Fq) (kq := kq)
  generalize hf : (fApp Fq kq) = rv at *
  obtain ⟨⟨cd, vz⟩, F9⟩ := rv
  dsimp only at a1 a3 hcd ⊢
  have hcc : cd = 0 ∨ cd = 1 ∨ cd = 2 := by omega
  rcases hcc with rfl | rfl | rfl
  · rw [oC_0] at a3
    refine ⟨g, w1, a1, a2, cst_0, ?_⟩
    simp only [s_L_append_0, s_L_append_1, s_L_append_2, s_L_append_5, s_L_append_6, i6, cond_true, a3, qAv]
    rfl
  · have a3 : pwX so 96 0 [some (.ref xx), some (.int kq)] [] g w = some (.inr 0, thr g, w1) := a3
    refine ⟨thr g, w1, a1, a2, cst_t, ?_⟩
    simp only [s_L_append_0, s_L_append_1, s_L_append_2, i6, cond_true, a3]
    rw [qAh hn_append_1 rfl]
    show pwX so 132 8 [some (.ref xx), some (.int kq), none] [] (thr g) w1 = _
    simp only [s_L_append_8, s_L_append_11]
    rfl
  · have a3 : pwX so 96 0 [some (.ref xx), some (.int kq)] [] g w = some (.inr 1, thr g, w1) := a3
    refine ⟨thr g, w1, a1, a2, cst_t, ?_⟩
    simp only [s_L_append_0, s_L_append_1, s_L_append_2, i6, cond_true, a3]
    rw [qAh hn_append_2 rfl]
    show pwX so 132 13 [some (.ref xx), some (.int kq), none] [] (thr g) w1 = _
    simp only [s_L_append_13, s_L_append_16]
    rfl
theorem v_append {kq : Int32} {vz : Int32} (hr : (fApp Fq kq).1 = (0, vz)) (hC : clsW xx Fq w) : lzE xx g w (fApp Fq kq).2 0 (.long vz.toInt64) (pwX so 132 0 [some (.ref xx), some (.int kq), none] [] g w) := by
  have h := w_append (so := so) (g := g) (kq := kq) hC
  rw [hr] at h
  exact h
theorem th_append {kq : Int32} {kz : Nat} {vz : Int32} (hr : (fApp Fq kq).1 = (kz + 1, vz)) (hC : clsW xx Fq w) : lzE xx g w (fApp Fq kq).2 1 (.long (xV ((fun jq => if jq = 1 then 0 else 1) (kz + 1)))) (pwX so 132 0 [some (.ref xx), some (.int kq), none] [] g w) := by
  have h := w_append (so := so) (g := g) (kq := kq) hC
  rw [hr] at h
  exact h
theorem cd_load  : (fLoad Fq).1.1 ≤ 1 := by
  unfold fLoad
  (repeat' split) <;> first | exact Nat.zero_le _ | exact (by decide : 1 ≤ 1) | exact (by decide : 2 ≤ 1) | exact (by decide : 3 ≤ 1)
theorem hn_load_1 : pwHnd 133 1 1 = some (7, 1) := by decide +kernel
theorem w_load (hs : soW so xx w) (hC : clsW xx Fq w) : lzE xx g w (fLoad Fq).2 (if (fLoad Fq).1.1 = 0 then 0 else 1) (.long (lV (fun _ => 1) (fLoad Fq).1)) (pwX so 133 0 [some (.ref xx), none] [] g w) := by
  obtain ⟨w1, a1, a2, a3⟩ := x_load (so := so) (g := g) (xx := xx) (w := w) (Fq := Fq)  hs hC
  have i6 : pwIsC w xx 6 = true := ci_ hC.1
  have hcd := cd_load (Fq := Fq) 
  generalize hf : (fLoad Fq) = rv at *
  obtain ⟨⟨cd, vz⟩, F9⟩ := rv
  dsimp only at a1 a3 hcd ⊢
  have hcc : cd = 0 ∨ cd = 1 := by omega
  rcases hcc with rfl | rfl
  · rw [oC_0] at a3
    refine ⟨g, w1, a1, a2, cst_0, ?_⟩
    simp only [s_L_load_0, s_L_load_1, s_L_load_4, s_L_load_5, i6, cond_true, a3, qAv]
    rfl
  · have a3 : pwX so 99 0 [some (.ref xx), none, none] [] g w = some (.inr 1, thr g, w1) := a3
    refine ⟨thr g, w1, a1, a2, cst_t, ?_⟩
    simp only [s_L_load_0, s_L_load_1, i6, cond_true, a3]
    rw [qAh hn_load_1 rfl]
    show pwX so 133 7 [some (.ref xx), none] [] (thr g) w1 = _
    simp only [s_L_load_7, s_L_load_10]
    rfl
theorem v_load (hs : soW so xx w) {vz : Int32} (hr : (fLoad Fq).1 = (0, vz)) (hC : clsW xx Fq w) : lzE xx g w (fLoad Fq).2 0 (.long vz.toInt64) (pwX so 133 0 [some (.ref xx), none] [] g w) := by
  have h := w_load (so := so) (g := g)  hs hC
  rw [hr] at h
  exact h
theorem th_load (hs : soW so xx w) {kz : Nat} {vz : Int32} (hr : (fLoad Fq).1 = (kz + 1, vz)) (hC : clsW xx Fq w) : lzE xx g w (fLoad Fq).2 1 (.long (xV ((fun _ => 1) (kz + 1)))) (pwX so 133 0 [some (.ref xx), none] [] g w) := by
  have h := w_load (so := so) (g := g)  hs hC
  rw [hr] at h
  exact h
theorem cd_about {pq : Int32} : (fAbout Fq pq).1 ≤ 1 := by
  unfold fAbout
  (repeat' split) <;> first | exact Nat.zero_le _ | exact (by decide : 1 ≤ 1) | exact (by decide : 2 ≤ 1) | exact (by decide : 3 ≤ 1)
theorem hn_about_1 : pwHnd 134 2 0 = some (8, 2) := by decide +kernel
theorem w_about {pq : Int32} (hC : clsW xx Fq w) : lzE xx g w Fq (if (fAbout Fq pq).1 = 0 then 0 else 1) (.long (lV (fun _ => 0) (fAbout Fq pq))) (pwX so 134 0 [some (.ref xx), some (.int pq), none] [] g w) := by
  obtain ⟨w1, a1, a2, a3⟩ := x_about (so := so) (g := g) (xx := xx) (w := w) (Fq := Fq) (pq := pq) hC
  have i6 : pwIsC w xx 6 = true := ci_ hC.1
  have hcd := cd_about (Fq := Fq) (pq := pq)
  generalize hf : (fAbout Fq pq) = rv at *
  obtain ⟨cd, vz⟩ := rv
  dsimp only at a1 a3 hcd ⊢
  have hcc : cd = 0 ∨ cd = 1 := by omega
  rcases hcc with rfl | rfl
  · rw [oC_0] at a3
    refine ⟨g, w1, a1, a2, cst_0, ?_⟩
    simp only [s_L_about_0, s_L_about_1, s_L_about_2, s_L_about_5, s_L_about_6, i6, cond_true, a3, qAv]
    rfl
  · have a3 : pwX so 100 0 [some (.ref xx), some (.int pq)] [] g w = some (.inr 0, thr g, w1) := a3
    refine ⟨thr g, w1, a1, a2, cst_t, ?_⟩
    simp only [s_L_about_0, s_L_about_1, s_L_about_2, i6, cond_true, a3]
    rw [qAh hn_about_1 rfl]
    show pwX so 134 8 [some (.ref xx), some (.int pq), none] [] (thr g) w1 = _
    simp only [s_L_about_8, s_L_about_11]
    rfl
theorem v_about {pq : Int32} {vz : Int32} (hr : (fAbout Fq pq) = (0, vz)) (hC : clsW xx Fq w) : lzE xx g w Fq 0 (.long vz.toInt64) (pwX so 134 0 [some (.ref xx), some (.int pq), none] [] g w) := by
  have h := w_about (so := so) (g := g) (pq := pq) hC
  rw [hr] at h
  exact h
theorem th_about {pq : Int32} {kz : Nat} {vz : Int32} (hr : (fAbout Fq pq) = (kz + 1, vz)) (hC : clsW xx Fq w) : lzE xx g w Fq 1 (.long (xV ((fun _ => 0) (kz + 1)))) (pwX so 134 0 [some (.ref xx), some (.int pq), none] [] g w) := by
  have h := w_about (so := so) (g := g) (pq := pq) hC
  rw [hr] at h
  exact h
theorem cd_walkerOf {kq : Int32} {pq : Int32} : (fWalkerOf Fq kq pq).1 ≤ 2 := by
  unfold fWalkerOf
  (repeat' split) <;> first | exact Nat.zero_le _ | exact (by decide : 1 ≤ 2) | exact (by decide : 2 ≤ 2) | exact (by decide : 3 ≤ 2)
theorem hn_walkerOf_1 : pwHnd 135 3 2 = some (9, 3) := by decide +kernel
theorem hn_walkerOf_2 : pwHnd 135 3 0 = some (14, 3) := by decide +kernel
theorem w_walkerOf {kq : Int32} {pq : Int32} (hC : clsW xx Fq w) : lzE xx g w Fq (if (fWalkerOf Fq kq pq).1 = 0 then 0 else 1) (.long (lV (fun jq => if jq = 1 then 2 else 0) (fWalkerOf Fq kq pq))) (pwX so 135 0 [some (.ref xx), some (.int kq), some (.int pq), none] [] g w) := by
  obtain ⟨w1, a1, a2, a3⟩ := x_walkerOf (so := so) (g := g) (xx := xx) (w := w) (Fq := Fq) (kq := kq) (pq := pq) hC
  have i6 : pwIsC w xx 6 = true := ci_ hC.1
  have hcd := cd_walkerOf (Fq := Fq) (kq := kq) (pq := pq)
  generalize hf : (fWalkerOf Fq kq pq) = rv at *
  obtain ⟨cd, vz⟩ := rv
  dsimp only at a1 a3 hcd ⊢
  have hcc : cd = 0 ∨ cd = 1 ∨ cd = 2 := by omega
  rcases hcc with rfl | rfl | rfl
  · rw [oC_0] at a3
    refine ⟨g, w1, a1, a2, cst_0, ?_⟩
    simp only [s_L_walkerOf_0, s_L_walkerOf_1, s_L_walkerOf_2, s_L_walkerOf_3, s_L_walkerOf_6, s_L_walkerOf_7, i6, cond_true, a3, qAv]
    rfl
  · have a3 : pwX so 101 0 [some (.ref xx), some (.int kq), some (.int pq)] [] g w = some (.inr 2, thr g, w1) := a3
    refine ⟨thr g, w1, a1, a2, cst_t, ?_⟩
    simp only [s_L_walkerOf_0, s_L_walkerOf_1, s_L_walkerOf_2, s_L_walkerOf_3, i6, cond_true, a3]
    rw [qAh hn_walkerOf_1 rfl]
    show pwX so 135 9 [some (.ref xx), some (.int kq), some (.int pq), none] [] (thr g) w1 = _
    simp only [s_L_walkerOf_9, s_L_walkerOf_12]
    rfl
  · have a3 : pwX so 101 0 [some (.ref xx), some (.int kq), some (.int pq)] [] g w = some (.inr 0, thr g, w1) := a3
    refine ⟨thr g, w1, a1, a2, cst_t, ?_⟩
    simp only [s_L_walkerOf_0, s_L_walkerOf_1, s_L_walkerOf_2, s_L_walkerOf_3, i6, cond_true, a3]
    rw [qAh hn_walkerOf_2 rfl]
    show pwX so 135 14 [some (.ref xx), some (.int kq), some (.int pq), none] [] (thr g) w1 = _
    simp only [s_L_walkerOf_14, s_L_walkerOf_17]
    rfl
theorem v_walkerOf {kq : Int32} {pq : Int32} {vz : Int32} (hr : (fWalkerOf Fq kq pq) = (0, vz)) (hC : clsW xx Fq w) : lzE xx g w Fq 0 (.long vz.toInt64) (pwX so 135 0 [some (.ref xx), some (.int kq), some (.int pq), none] [] g w) := by
  have h := w_walkerOf (so := so) (g := g) (kq := kq) (pq := pq) hC
  rw [hr] at h
  exact h
theorem th_walkerOf {kq : Int32} {pq : Int32} {kz : Nat} {vz : Int32} (hr : (fWalkerOf Fq kq pq) = (kz + 1, vz)) (hC : clsW xx Fq w) : lzE xx g w Fq 1 (.long (xV ((fun jq => if jq = 1 then 2 else 0) (kz + 1)))) (pwX so 135 0 [some (.ref xx), some (.int kq), some (.int pq), none] [] g w) := by
  have h := w_walkerOf (so := so) (g := g) (kq := kq) (pq := pq) hC
  rw [hr] at h
  exact h
theorem cd_streetOf {kq : Int32} {pq : Int32} : (fStreetOf Fq kq pq).1 ≤ 2 := by
  unfold fStreetOf
  (repeat' split) <;> first | exact Nat.zero_le _ | exact (by decide : 1 ≤ 2) | exact (by decide : 2 ≤ 2) | exact (by decide : 3 ≤ 2)
theorem hn_streetOf_1 : pwHnd 136 3 2 = some (9, 3) := by decide +kernel
theorem hn_streetOf_2 : pwHnd 136 3 0 = some (14, 3) := by decide +kernel
theorem w_streetOf {kq : Int32} {pq : Int32} (hC : clsW xx Fq w) : lzE xx g w Fq (if (fStreetOf Fq kq pq).1 = 0 then 0 else 1) (.long (lV (fun jq => if jq = 1 then 2 else 0) (fStreetOf Fq kq pq))) (pwX so 136 0 [some (.ref xx), some (.int kq), some (.int pq), none] [] g w) := by
  obtain ⟨w1, a1, a2, a3⟩ := x_streetOf (so := so) (g := g) (xx := xx) (w := w) (Fq := Fq) (kq := kq) (pq := pq) hC
  have i6 : pwIsC w xx 6 = true := ci_ hC.1
  have hcd := cd_streetOf (Fq := Fq) (kq := kq) (pq := pq)
  generalize hf : (fStreetOf Fq kq pq) = rv at *
  obtain ⟨cd, vz⟩ := rv
  dsimp only at a1 a3 hcd ⊢
  have hcc : cd = 0 ∨ cd = 1 ∨ cd = 2 := by omega
  rcases hcc with rfl | rfl | rfl
  · rw [oC_0] at a3
    refine ⟨g, w1, a1, a2, cst_0, ?_⟩
    simp only [s_L_streetOf_0, s_L_streetOf_1, s_L_streetOf_2, s_L_streetOf_3, s_L_streetOf_6, s_L_streetOf_7, i6, cond_true, a3, qAv]
    rfl
  · have a3 : pwX so 102 0 [some (.ref xx), some (.int kq), some (.int pq)] [] g w = some (.inr 2, thr g, w1) := a3
    refine ⟨thr g, w1, a1, a2, cst_t, ?_⟩
    simp only [s_L_streetOf_0, s_L_streetOf_1, s_L_streetOf_2, s_L_streetOf_3, i6, cond_true, a3]
    rw [qAh hn_streetOf_1 rfl]
    show pwX so 136 9 [some (.ref xx), some (.int kq), some (.int pq), none] [] (thr g) w1 = _
    simp only [s_L_streetOf_9, s_L_streetOf_12]
    rfl
  · have a3 : pwX so 102 0 [some (.ref xx), some (.int kq), some (.int pq)] [] g w = some (.inr 0, thr g, w1) := a3
    refine ⟨thr g, w1, a1, a2, cst_t, ?_⟩
    simp only [s_L_streetOf_0, s_L_streetOf_1, s_L_streetOf_2, s_L_streetOf_3, i6, cond_true, a3]
    rw [qAh hn_streetOf_2 rfl]
    show pwX so 136 14 [some (.ref xx), some (.int kq), some (.int pq), none] [] (thr g) w1 = _
    simp only [s_L_streetOf_14, s_L_streetOf_17]
    rfl
theorem v_streetOf {kq : Int32} {pq : Int32} {vz : Int32} (hr : (fStreetOf Fq kq pq) = (0, vz)) (hC : clsW xx Fq w) : lzE xx g w Fq 0 (.long vz.toInt64) (pwX so 136 0 [some (.ref xx), some (.int kq), some (.int pq), none] [] g w) := by
  have h := w_streetOf (so := so) (g := g) (kq := kq) (pq := pq) hC
  rw [hr] at h
  exact h
theorem th_streetOf {kq : Int32} {pq : Int32} {kz : Nat} {vz : Int32} (hr : (fStreetOf Fq kq pq) = (kz + 1, vz)) (hC : clsW xx Fq w) : lzE xx g w Fq 1 (.long (xV ((fun jq => if jq = 1 then 2 else 0) (kz + 1)))) (pwX so 136 0 [some (.ref xx), some (.int kq), some (.int pq), none] [] g w) := by
  have h := w_streetOf (so := so) (g := g) (kq := kq) (pq := pq) hC
  rw [hr] at h
  exact h
theorem cd_cell {kq : Int32} {pq : Int32} : (fCell Fq kq pq).1 ≤ 1 := by
  unfold fCell
  (repeat' split) <;> first | exact Nat.zero_le _ | exact (by decide : 1 ≤ 1) | exact (by decide : 2 ≤ 1) | exact (by decide : 3 ≤ 1)
theorem hn_cell_1 : pwHnd 137 3 2 = some (9, 3) := by decide +kernel
theorem w_cell {kq : Int32} {pq : Int32} (hC : clsW xx Fq w) : lzE xx g w Fq (if (fCell Fq kq pq).1 = 0 then 0 else 1) (.long (lV (fun _ => 2) (fCell Fq kq pq))) (pwX so 137 0 [some (.ref xx), some (.int kq), some (.int pq), none] [] g w) := by
  obtain ⟨w1, a1, a2, a3⟩ := x_cell (so := so) (g := g) (xx := xx) (w := w) (Fq := Fq) (kq := kq) (pq := pq) hC
  have i6 : pwIsC w xx 6 = true := ci_ hC.1
  have hcd := cd_cell (Fq := Fq) (kq := kq) (pq := pq)
  generalize hf : (fCell Fq kq pq) = rv at *
  obtain ⟨cd, vz⟩ := rv
  dsimp only at a1 a3 hcd ⊢
  have hcc : cd = 0 ∨ cd = 1 := by omega
  rcases hcc with rfl | rfl
  · rw [oC_0] at a3
    refine ⟨g, w1, a1, a2, cst_0, ?_⟩
    simp only [s_L_cell_0, s_L_cell_1, s_L_cell_2, s_L_cell_3, s_L_cell_6, s_L_cell_7, i6, cond_true, a3, qAv]
    rfl
  · have a3 : pwX so 103 0 [some (.ref xx), some (.int kq), some (.int pq)] [] g w = some (.inr 2, thr g, w1) := a3
    refine ⟨thr g, w1, a1, a2, cst_t, ?_⟩
    simp only [s_L_cell_0, s_L_cell_1, s_L_cell_2, s_L_cell_3, i6, cond_true, a3]
    rw [qAh hn_cell_1 rfl]
    show pwX so 137 9 [some (.ref xx), some (.int kq), some (.int pq), none] [] (thr g) w1 = _
    simp only [s_L_cell_9, s_L_cell_12]
    rfl
theorem v_cell {kq : Int32} {pq : Int32} {vz : Int32} (hr : (fCell Fq kq pq) = (0, vz)) (hC : clsW xx Fq w) : lzE xx g w Fq 0 (.long vz.toInt64) (pwX so 137 0 [some (.ref xx), some (.int kq), some (.int pq), none] [] g w) := by
  have h := w_cell (so := so) (g := g) (kq := kq) (pq := pq) hC
  rw [hr] at h
  exact h
theorem th_cell {kq : Int32} {pq : Int32} {kz : Nat} {vz : Int32} (hr : (fCell Fq kq pq) = (kz + 1, vz)) (hC : clsW xx Fq w) : lzE xx g w Fq 1 (.long (xV ((fun _ => 2) (kz + 1)))) (pwX so 137 0 [some (.ref xx), some (.int kq), some (.int pq), none] [] g w) := by
  have h := w_cell (so := so) (g := g) (kq := kq) (pq := pq) hC
  rw [hr] at h
  exact h
theorem cd_file {kq : Int32} : (fFile Fq kq).1 ≤ 1 := by
  unfold fFile
  (repeat' split) <;> first | exact Nat.zero_le _ | exact (by decide : 1 ≤ 1) | exact (by decide : 2 ≤ 1) | exact (by decide : 3 ≤ 1)
theorem hn_file_1 : pwHnd 138 2 2 = some (8, 2) := by decide +kernel
theorem w_file {kq : Int32} (hC : clsW xx Fq w) : lzE xx g w Fq (if (fFile Fq kq).1 = 0 then 0 else 1) (.long (lV (fun _ => 2) (fFile Fq kq))) (pwX so 138 0 [some (.ref xx), some (.int kq), none] [] g w) := by
  obtain ⟨w1, a1, a2, a3⟩ := x_file (so := so) (g := g) (xx := xx) (w := w) (Fq := Fq) (kq := kq) hC
  have i6 : pwIsC w xx 6 = true := ci_ hC.1
  have hcd := cd_file (Fq := Fq) (kq := kq)
  generalize hf : (fFile Fq kq) = rv at *
  obtain ⟨cd, vz⟩ := rv
  dsimp only at a1 a3 hcd ⊢
  have hcc : cd = 0 ∨ cd = 1 := by omega
  rcases hcc with rfl | rfl
  · rw [oC_0] at a3
    refine ⟨g, w1, a1, a2, cst_0, ?_⟩
    simp only [s_L_file_0, s_L_file_1, s_L_file_2, s_L_file_5, s_L_file_6, i6, cond_true, a3, qAv]
    rfl
  · have a3 : pwX so 104 0 [some (.ref xx), some (.int kq)] [] g w = some (.inr 2, thr g, w1) := a3
    refine ⟨thr g, w1, a1, a2, cst_t, ?_⟩
    simp only [s_L_file_0, s_L_file_1, s_L_file_2, i6, cond_true, a3]
    rw [qAh hn_file_1 rfl]
    show pwX so 138 8 [some (.ref xx), some (.int kq), none] [] (thr g) w1 = _
    simp only [s_L_file_8, s_L_file_11]
    rfl
theorem v_file {kq : Int32} {vz : Int32} (hr : (fFile Fq kq) = (0, vz)) (hC : clsW xx Fq w) : lzE xx g w Fq 0 (.long vz.toInt64) (pwX so 138 0 [some (.ref xx), some (.int kq), none] [] g w) := by
  have h := w_file (so := so) (g := g) (kq := kq) hC
  rw [hr] at h
  exact h
theorem th_file {kq : Int32} {kz : Nat} {vz : Int32} (hr : (fFile Fq kq) = (kz + 1, vz)) (hC : clsW xx Fq w) : lzE xx g w Fq 1 (.long (xV ((fun _ => 2) (kz + 1)))) (pwX so 138 0 [some (.ref xx), some (.int kq), none] [] g w) := by
  have h := w_file (so := so) (g := g) (kq := kq) hC
  rw [hr] at h
  exact h
theorem cd_read {kq : Int32} {pq : Int32} : (fRead Fq kq pq).1 ≤ 2 := by
  unfold fRead
  (repeat' split) <;> first | exact Nat.zero_le _ | exact (by decide : 1 ≤ 2) | exact (by decide : 2 ≤ 2) | exact (by decide : 3 ≤ 2)
theorem hn_read_1 : pwHnd 139 3 2 = some (9, 3) := by decide +kernel
theorem hn_read_2 : pwHnd 139 3 0 = some (14, 3) := by decide +kernel
theorem w_read {kq : Int32} {pq : Int32} (hC : clsW xx Fq w) : lzE xx g w Fq (if (fRead Fq kq pq).1 = 0 then 0 else 1) (.long (lV (fun jq => if jq = 1 then 2 else 0) (fRead Fq kq pq))) (pwX so 139 0 [some (.ref xx), some (.int kq), some (.int pq), none] [] g w) := by
  obtain ⟨w1, a1, a2, a3⟩ := x_read (so := so) (g := g) (xx := xx) (w := w) (Fq := Fq) (kq := kq) (pq := pq) hC
  have i6 : pwIsC w xx 6 = true := ci_ hC.1
  have hcd := cd_read (Fq := Fq) (kq := kq) (pq := pq)
  generalize hf : (fRead Fq kq pq) = rv at *
  obtain ⟨cd, vz⟩ := rv
  dsimp only at a1 a3 hcd ⊢
  have hcc : cd = 0 ∨ cd = 1 ∨ cd = 2 := by omega
  rcases hcc with rfl | rfl | rfl
  · rw [oC_0] at a3
    refine ⟨g, w1, a1, a2, cst_0, ?_⟩
    simp only [s_L_read_0, s_L_read_1, s_L_read_2, s_L_read_3, s_L_read_6, s_L_read_7, i6, cond_true, a3, qAv]
    rfl
  · have a3 : pwX so 105 0 [some (.ref xx), some (.int kq), some (.int pq)] [] g w = some (.inr 2, thr g, w1) := a3
    refine ⟨thr g, w1, a1, a2, cst_t, ?_⟩
    simp only [s_L_read_0, s_L_read_1, s_L_read_2, s_L_read_3, i6, cond_true, a3]
    rw [qAh hn_read_1 rfl]
    show pwX so 139 9 [some (.ref xx), some (.int kq), some (.int pq), none] [] (thr g) w1 = _
    simp only [s_L_read_9, s_L_read_12]
    rfl
  · have a3 : pwX so 105 0 [some (.ref xx), some (.int kq), some (.int pq)] [] g w = some (.inr 0, thr g, w1) := a3
    refine ⟨thr g, w1, a1, a2, cst_t, ?_⟩
    simp only [s_L_read_0, s_L_read_1, s_L_read_2, s_L_read_3, i6, cond_true, a3]
    rw [qAh hn_read_2 rfl]
    show pwX so 139 14 [some (.ref xx), some (.int kq), some (.int pq), none] [] (thr g) w1 = _
    simp only [s_L_read_14, s_L_read_17]
    rfl
theorem v_read {kq : Int32} {pq : Int32} {vz : Int32} (hr : (fRead Fq kq pq) = (0, vz)) (hC : clsW xx Fq w) : lzE xx g w Fq 0 (.long vz.toInt64) (pwX so 139 0 [some (.ref xx), some (.int kq), some (.int pq), none] [] g w) := by
  have h := w_read (so := so) (g := g) (kq := kq) (pq := pq) hC
  rw [hr] at h
  exact h
theorem th_read {kq : Int32} {pq : Int32} {kz : Nat} {vz : Int32} (hr : (fRead Fq kq pq) = (kz + 1, vz)) (hC : clsW xx Fq w) : lzE xx g w Fq 1 (.long (xV ((fun jq => if jq = 1 then 2 else 0) (kz + 1)))) (pwX so 139 0 [some (.ref xx), some (.int kq), some (.int pq), none] [] g w) := by
  have h := w_read (so := so) (g := g) (kq := kq) (pq := pq) hC
  rw [hr] at h
  exact h
theorem cd_walker {pq : Int32} : (fWalker Fq pq).1.1 ≤ 2 := by
  unfold fWalker
  (repeat' split) <;> first | exact Nat.zero_le _ | exact (by decide : 1 ≤ 2) | exact (by decide : 2 ≤ 2) | exact (by decide : 3 ≤ 2)
theorem hn_walker_1 : pwHnd 140 2 0 = some (8, 2) := by decide +kernel
theorem hn_walker_2 : pwHnd 140 2 1 = some (13, 2) := by decide +kernel
theorem w_walker {pq : Int32} (hC : clsW xx Fq w) : lzE xx g w (fWalker Fq pq).2 (if (fWalker Fq pq).1.1 = 0 then 0 else 1) (.long (lV (fun jq => if jq = 1 then 0 else 1) (fWalker Fq pq).1)) (pwX so 140 0 [some (.ref xx), some (.int pq), none] [] g w) := by
  obtain ⟨w1, a1, a2, a3⟩ := x_walker (so := so) (g := g) (xx := xx) (w := w) (Fq := Fq) (pq := pq) hC
  have i6 : pwIsC w xx 6 = true := ci_ hC.1
  have hcd := cd_walker (Fq := Fq) (pq := pq)
  generalize hf : (fWalker Fq pq) = rv at *
  obtain ⟨⟨cd, vz⟩, F9⟩ := rv
  dsimp only at a1 a3 hcd ⊢
  have hcc : cd = 0 ∨ cd = 1 ∨ cd = 2 := by omega
  rcases hcc with rfl | rfl | rfl
  · rw [oC_0] at a3
    refine ⟨g, w1, a1, a2, cst_0, ?_⟩
    simp only [s_L_walker_0, s_L_walker_1, s_L_walker_2, s_L_walker_5, s_L_walker_6, i6, cond_true, a3, qAv]
    rfl
  · have a3 : pwX so 106 0 [some (.ref xx), some (.int pq)] [] g w = some (.inr 0, thr g, w1) := a3
    refine ⟨thr g, w1, a1, a2, cst_t, ?_⟩
    simp only [s_L_walker_0, s_L_walker_1, s_L_walker_2, i6, cond_true, a3]
    rw [qAh hn_walker_1 rfl]
    show pwX so 140 8 [some (.ref xx), some (.int pq), none] [] (thr g) w1 = _
    simp only [s_L_walker_8, s_L_walker_11]
    rfl
  · have a3 : pwX so 106 0 [some (.ref xx), some (.int pq)] [] g w = some (.inr 1, thr g, w1) := a3
    refine ⟨thr g, w1, a1, a2, cst_t, ?_⟩
    simp only [s_L_walker_0, s_L_walker_1, s_L_walker_2, i6, cond_true, a3]
    rw [qAh hn_walker_2 rfl]
    show pwX so 140 13 [some (.ref xx), some (.int pq), none] [] (thr g) w1 = _
    simp only [s_L_walker_13, s_L_walker_16]
    rfl
theorem v_walker {pq : Int32} {vz : Int32} (hr : (fWalker Fq pq).1 = (0, vz)) (hC : clsW xx Fq w) : lzE xx g w (fWalker Fq pq).2 0 (.long vz.toInt64) (pwX so 140 0 [some (.ref xx), some (.int pq), none] [] g w) := by
  have h := w_walker (so := so) (g := g) (pq := pq) hC
  rw [hr] at h
  exact h
theorem th_walker {pq : Int32} {kz : Nat} {vz : Int32} (hr : (fWalker Fq pq).1 = (kz + 1, vz)) (hC : clsW xx Fq w) : lzE xx g w (fWalker Fq pq).2 1 (.long (xV ((fun jq => if jq = 1 then 0 else 1) (kz + 1)))) (pwX so 140 0 [some (.ref xx), some (.int pq), none] [] g w) := by
  have h := w_walker (so := so) (g := g) (pq := pq) hC
  rw [hr] at h
  exact h
theorem cd_street {pq : Int32} {rq : Int32} {tq : Int32} {uq : Int32} : (fStreet Fq pq rq tq uq).1.1 ≤ 2 := by
  unfold fStreet
  (repeat' split) <;> first | exact Nat.zero_le _ | exact (by decide : 1 ≤ 2) | exact (by decide : 2 ≤ 2) | exact (by decide : 3 ≤ 2)
theorem hn_street_1 : pwHnd 141 6 0 = some (13, 5) := by decide +kernel
theorem hn_street_2 : pwHnd 141 6 1 = some (19, 5) := by decide +kernel
theorem w_street {pq : Int32} {rq : Int32} {tq : Int32} {uq : Int32} (hC : clsW xx Fq w) : lzE xx g w (fStreet Fq pq rq tq uq).2 (if (fStreet Fq pq rq tq uq).1.1 = 0 then 0 else 1) (.long (lV (fun jq => if jq = 1 then 0 else 1) (fStreet Fq pq rq tq uq).1)) (pwX so 141 0 [some (.ref xx), some (.int pq), some (.int rq), some (.int tq), some (.int uq), none] [] g w) := by
  obtain ⟨w1, a1, a2, a3⟩ := x_street (so := so) (g := g) (xx := xx) (w := w) (Fq := Fq) (pq := pq) (rq := rq) (tq := tq) (uq := uq) hC
  have i6 : pwIsC w xx 6 = true := ci_ hC.1
  have hcd := cd_street (Fq := Fq) (pq := pq) (rq := rq) (tq := tq) (uq := uq)
  generalize hf : (fStreet Fq pq rq tq uq) = rv at *
  obtain ⟨⟨cd, vz⟩, F9⟩ := rv
  dsimp only at a1 a3 hcd ⊢
  have hcc : cd = 0 ∨ cd = 1 ∨ cd = 2 := by omega
  rcases hcc with rfl | rfl | rfl
  · rw [oC_0] at a3
    refine ⟨g, w1, a1, a2, cst_0, ?_⟩
    simp only [s_L_street_0, s_L_street_1, s_L_street_2, s_L_street_3, s_L_street_4, s_L_street_6, s_L_street_9, s_L_street_10, i6, cond_true, a3, qAv]
    rfl
  · have a3 : pwX so 107 0 [some (.ref xx), some (.int pq), some (.int rq), some (.int tq), some (.int uq)] [] g w = some (.inr 0, thr g, w1) := a3
    refine ⟨thr g, w1, a1, a2, cst_t, ?_⟩
    simp only [s_L_street_0, s_L_street_1, s_L_street_2, s_L_street_3, s_L_street_4, s_L_street_6, i6, cond_true, a3]
    rw [qAh hn_street_1 rfl]
    show pwX so 141 13 [some (.ref xx), some (.int pq), some (.int rq), some (.int tq), some (.int uq), none] [] (thr g) w1 = _
    simp only [s_L_street_13, s_L_street_16]
    rfl
  · have a3 : pwX so 107 0 [some (.ref xx), some (.int pq), some (.int rq), some (.int tq), some (.int uq)] [] g w = some (.inr 1, thr g, w1) := a3
    refine ⟨thr g, w1, a1, a2, cst_t, ?_⟩
    simp only [s_L_street_0, s_L_street_1, s_L_street_2, s_L_street_3, s_L_street_4, s_L_street_6, i6, cond_true, a3]
    rw [qAh hn_street_2 rfl]
    show pwX so 141 19 [some (.ref xx), some (.int pq), some (.int rq), some (.int tq), some (.int uq), none] [] (thr g) w1 = _
    simp only [s_L_street_19, s_L_street_22]
    rfl
theorem v_street {pq : Int32} {rq : Int32} {tq : Int32} {uq : Int32} {vz : Int32} (hr : (fStreet Fq pq rq tq uq).1 = (0, vz)) (hC : clsW xx Fq w) : lzE xx g w (fStreet Fq pq rq tq uq).2 0 (.long vz.toInt64) (pwX so 141 0 [some (.ref xx), some (.int pq), some (.int rq), some (.int tq), some (.int uq), none] [] g w) := by
  have h := w_street (so := so) (g := g) (pq := pq) (rq := rq) (tq := tq) (uq := uq) hC
  rw [hr] at h
  exact h
theorem th_street {pq : Int32} {rq : Int32} {tq : Int32} {uq : Int32} {kz : Nat} {vz : Int32} (hr : (fStreet Fq pq rq tq uq).1 = (kz + 1, vz)) (hC : clsW xx Fq w) : lzE xx g w (fStreet Fq pq rq tq uq).2 1 (.long (xV ((fun jq => if jq = 1 then 0 else 1) (kz + 1)))) (pwX so 141 0 [some (.ref xx), some (.int pq), some (.int rq), some (.int tq), some (.int uq), none] [] g w) := by
  have h := w_street (so := so) (g := g) (pq := pq) (rq := rq) (tq := tq) (uq := uq) hC
  rw [hr] at h
  exact h
theorem cd_shift {kq : Int32} {pq : Int32} : (fShift Fq kq pq).1.1 ≤ 2 := by
  unfold fShift
  (repeat' split) <;> first | exact Nat.zero_le _ | exact (by decide : 1 ≤ 2) | exact (by decide : 2 ≤ 2) | exact (by decide : 3 ≤ 2)
theorem hn_shift_1 : pwHnd 142 3 2 = some (9, 3) := by decide +kernel
theorem hn_shift_2 : pwHnd 142 3 0 = some (14, 3) := by decide +kernel
theorem w_shift {kq : Int32} {pq : Int32} (hC : clsW xx Fq w) : lzE xx g w (fShift Fq kq pq).2 (if (fShift Fq kq pq).1.1 = 0 then 0 else 1) (.long (lV (fun jq => if jq = 1 then 2 else 0) (fShift Fq kq pq).1)) (pwX so 142 0 [some (.ref xx), some (.int kq), some (.int pq), none] [] g w) := by
  obtain ⟨w1, a1, a2, a3⟩ := x_shift (so := so) (g := g) (xx := xx) (w := w) (Fq := Fq) (kq := kq) (pq := pq) hC
  have i6 : pwIsC w xx 6 = true := ci_ hC.1
  have hcd := cd_shift (Fq := Fq) (kq := kq) (pq := pq)
  generalize hf : (fShift Fq kq pq) = rv at *
  obtain ⟨⟨cd, vz⟩, F9⟩ := rv
  dsimp only at a1 a3 hcd ⊢
  have hcc : cd = 0 ∨ cd = 1 ∨ cd = 2 := by omega
  rcases hcc with rfl | rfl | rfl
  · rw [oC_0] at a3
    refine ⟨g, w1, a1, a2, cst_0, ?_⟩
    simp only [s_L_shift_0, s_L_shift_1, s_L_shift_2, s_L_shift_3, s_L_shift_6, s_L_shift_7, i6, cond_true, a3, qAv]
    rfl
  · have a3 : pwX so 108 0 [some (.ref xx), some (.int kq), some (.int pq)] [] g w = some (.inr 2, thr g, w1) := a3
    refine ⟨thr g, w1, a1, a2, cst_t, ?_⟩
    simp only [s_L_shift_0, s_L_shift_1, s_L_shift_2, s_L_shift_3, i6, cond_true, a3]
    rw [qAh hn_shift_1 rfl]
    show pwX so 142 9 [some (.ref xx), some (.int kq), some (.int pq), none] [] (thr g) w1 = _
    simp only [s_L_shift_9, s_L_shift_12]
    rfl
  · have a3 : pwX so 108 0 [some (.ref xx), some (.int kq), some (.int pq)] [] g w = some (.inr 0, thr g, w1) := a3
    refine ⟨thr g, w1, a1, a2, cst_t, ?_⟩
    simp only [s_L_shift_0, s_L_shift_1, s_L_shift_2, s_L_shift_3, i6, cond_true, a3]
    rw [qAh hn_shift_2 rfl]
    show pwX so 142 14 [some (.ref xx), some (.int kq), some (.int pq), none] [] (thr g) w1 = _
    simp only [s_L_shift_14, s_L_shift_17]
    rfl
theorem v_shift {kq : Int32} {pq : Int32} {vz : Int32} (hr : (fShift Fq kq pq).1 = (0, vz)) (hC : clsW xx Fq w) : lzE xx g w (fShift Fq kq pq).2 0 (.long vz.toInt64) (pwX so 142 0 [some (.ref xx), some (.int kq), some (.int pq), none] [] g w) := by
  have h := w_shift (so := so) (g := g) (kq := kq) (pq := pq) hC
  rw [hr] at h
  exact h
theorem th_shift {kq : Int32} {pq : Int32} {kz : Nat} {vz : Int32} (hr : (fShift Fq kq pq).1 = (kz + 1, vz)) (hC : clsW xx Fq w) : lzE xx g w (fShift Fq kq pq).2 1 (.long (xV ((fun jq => if jq = 1 then 2 else 0) (kz + 1)))) (pwX so 142 0 [some (.ref xx), some (.int kq), some (.int pq), none] [] g w) := by
  have h := w_shift (so := so) (g := g) (kq := kq) (pq := pq) hC
  rw [hr] at h
  exact h
theorem cd_letter {kq : Int32} {pq : Int32} : (fLetter Fq kq pq).1.1 ≤ 2 := by
  unfold fLetter
  (repeat' split) <;> first | exact Nat.zero_le _ | exact (by decide : 1 ≤ 2) | exact (by decide : 2 ≤ 2) | exact (by decide : 3 ≤ 2)
theorem hn_letter_1 : pwHnd 143 3 2 = some (9, 3) := by decide +kernel
theorem hn_letter_2 : pwHnd 143 3 0 = some (14, 3) := by decide +kernel
theorem w_letter {kq : Int32} {pq : Int32} (hC : clsW xx Fq w) : lzE xx g w (fLetter Fq kq pq).2 (if (fLetter Fq kq pq).1.1 = 0 then 0 else 1) (.long (lV (fun jq => if jq = 1 then 2 else 0) (fLetter Fq kq pq).1)) (pwX so 143 0 [some (.ref xx), some (.int kq), some (.int pq), none] [] g w) := by
  obtain ⟨w1, a1, a2, a3⟩ := x_letter (so := so) (g := g) (xx := xx) (w := w) (Fq := Fq) (kq := kq) (pq := pq) hC
  have i6 : pwIsC w xx 6 = true := ci_ hC.1
  have hcd := cd_letter (Fq := Fq) (kq := kq) (pq := pq)
  generalize hf : (fLetter Fq kq pq) = rv at *
  obtain ⟨⟨cd, vz⟩, F9⟩ := rv
  dsimp only at a1 a3 hcd ⊢
  have hcc : cd = 0 ∨ cd = 1 ∨ cd = 2 := by omega
  rcases hcc with rfl | rfl | rfl
  · rw [oC_0] at a3
    refine ⟨g, w1, a1, a2, cst_0, ?_⟩
    simp only [s_L_letter_0, s_L_letter_1, s_L_letter_2, s_L_letter_3, s_L_letter_6, s_L_letter_7, i6, cond_true, a3, qAv]
    rfl
  · have a3 : pwX so 109 0 [some (.ref xx), some (.int kq), some (.int pq)] [] g w = some (.inr 2, thr g, w1) := a3
    refine ⟨thr g, w1, a1, a2, cst_t, ?_⟩
    simp only [s_L_letter_0, s_L_letter_1, s_L_letter_2, s_L_letter_3, i6, cond_true, a3]
    rw [qAh hn_letter_1 rfl]
    show pwX so 143 9 [some (.ref xx), some (.int kq), some (.int pq), none] [] (thr g) w1 = _
    simp only [s_L_letter_9, s_L_letter_12]
    rfl
  · have a3 : pwX so 109 0 [some (.ref xx), some (.int kq), some (.int pq)] [] g w = some (.inr 0, thr g, w1) := a3
    refine ⟨thr g, w1, a1, a2, cst_t, ?_⟩
    simp only [s_L_letter_0, s_L_letter_1, s_L_letter_2, s_L_letter_3, i6, cond_true, a3]
    rw [qAh hn_letter_2 rfl]
    show pwX so 143 14 [some (.ref xx), some (.int kq), some (.int pq), none] [] (thr g) w1 = _
    simp only [s_L_letter_14, s_L_letter_17]
    rfl
theorem v_letter {kq : Int32} {pq : Int32} {vz : Int32} (hr : (fLetter Fq kq pq).1 = (0, vz)) (hC : clsW xx Fq w) : lzE xx g w (fLetter Fq kq pq).2 0 (.long vz.toInt64) (pwX so 143 0 [some (.ref xx), some (.int kq), some (.int pq), none] [] g w) := by
  have h := w_letter (so := so) (g := g) (kq := kq) (pq := pq) hC
  rw [hr] at h
  exact h
theorem th_letter {kq : Int32} {pq : Int32} {kz : Nat} {vz : Int32} (hr : (fLetter Fq kq pq).1 = (kz + 1, vz)) (hC : clsW xx Fq w) : lzE xx g w (fLetter Fq kq pq).2 1 (.long (xV ((fun jq => if jq = 1 then 2 else 0) (kz + 1)))) (pwX so 143 0 [some (.ref xx), some (.int kq), some (.int pq), none] [] g w) := by
  have h := w_letter (so := so) (g := g) (kq := kq) (pq := pq) hC
  rw [hr] at h
  exact h
theorem cd_exchange {kq : Int32} {pq : Int32} : (fExch Fq kq pq).1.1 ≤ 3 := by
  unfold fExch
  (repeat' split) <;> first | exact Nat.zero_le _ | exact (by decide : 1 ≤ 3) | exact (by decide : 2 ≤ 3) | exact (by decide : 3 ≤ 3)
theorem hn_exchange_1 : pwHnd 144 3 2 = some (9, 3) := by decide +kernel
theorem hn_exchange_2 : pwHnd 144 3 0 = some (14, 3) := by decide +kernel
theorem hn_exchange_3 : pwHnd 144 3 1 = some (19, 3) := by decide +kernel
theorem w_exchange {kq : Int32} {pq : Int32} (hC : clsW xx Fq w) : lzE xx g w (fExch Fq kq pq).2 (if (fExch Fq kq pq).1.1 = 0 then 0 else 1) (.long (lV (fun jq => if jq = 1 then 2 else if jq = 2 then 0 else 1) (fExch Fq kq pq).1)) (pwX so 144 0 [some (.ref xx), some (.int kq), some (.int pq), none] [] g w) := by
  obtain ⟨w1, a1, a2, a3⟩ := x_exch (so := so) (g := g) (xx := xx) (w := w) (Fq := Fq) (kq := kq) (pq := pq) hC
  have i6 : pwIsC w xx 6 = true := ci_ hC.1
  have hcd := cd_exchange (Fq := Fq) (kq := kq) (pq := pq)
  generalize hf : (fExch Fq kq pq) = rv at *
  obtain ⟨⟨cd, vz⟩, F9⟩ := rv
  dsimp only at a1 a3 hcd ⊢
  have hcc : cd = 0 ∨ cd = 1 ∨ cd = 2 ∨ cd = 3 := by omega
  rcases hcc with rfl | rfl | rfl | rfl
  · rw [oC_0] at a3
    refine ⟨g, w1, a1, a2, cst_0, ?_⟩
    simp only [s_L_exchange_0, s_L_exchange_1, s_L_exchange_2, s_L_exchange_3, s_L_exchange_6, s_L_exchange_7, i6, cond_true, a3, qAv]
    rfl
  · have a3 : pwX so 110 0 [some (.ref xx), some (.int kq), some (.int pq)] [] g w = some (.inr 2, thr g, w1) := a3
    refine ⟨thr g, w1, a1, a2, cst_t, ?_⟩
    simp only [s_L_exchange_0, s_L_exchange_1, s_L_exchange_2, s_L_exchange_3, i6, cond_true, a3]
    rw [qAh hn_exchange_1 rfl]
    show pwX so 144 9 [some (.ref xx), some (.int kq), some (.int pq), none] [] (thr g) w1 = _
    simp only [s_L_exchange_9, s_L_exchange_12]
    rfl
  · have a3 : pwX so 110 0 [some (.ref xx), some (.int kq), some (.int pq)] [] g w = some (.inr 0, thr g, w1) := a3
    refine ⟨thr g, w1, a1, a2, cst_t, ?_⟩
    simp only [s_L_exchange_0, s_L_exchange_1, s_L_exchange_2, s_L_exchange_3, i6, cond_true, a3]
    rw [qAh hn_exchange_2 rfl]
    show pwX so 144 14 [some (.ref xx), some (.int kq), some (.int pq), none] [] (thr g) w1 = _
    simp only [s_L_exchange_14, s_L_exchange_17]
    rfl
  · have a3 : pwX so 110 0 [some (.ref xx), some (.int kq), some (.int pq)] [] g w = some (.inr 1, thr g, w1) := a3
    refine ⟨thr g, w1, a1, a2, cst_t, ?_⟩
    simp only [s_L_exchange_0, s_L_exchange_1, s_L_exchange_2, s_L_exchange_3, i6, cond_true, a3]
    rw [qAh hn_exchange_3 rfl]
    show pwX so 144 19 [some (.ref xx), some (.int kq), some (.int pq), none] [] (thr g) w1 = _
    simp only [s_L_exchange_19, s_L_exchange_22]
    rfl
theorem v_exchange {kq : Int32} {pq : Int32} {vz : Int32} (hr : (fExch Fq kq pq).1 = (0, vz)) (hC : clsW xx Fq w) : lzE xx g w (fExch Fq kq pq).2 0 (.long vz.toInt64) (pwX so 144 0 [some (.ref xx), some (.int kq), some (.int pq), none] [] g w) := by
  have h := w_exchange (so := so) (g := g) (kq := kq) (pq := pq) hC
  rw [hr] at h
  exact h
theorem th_exchange {kq : Int32} {pq : Int32} {kz : Nat} {vz : Int32} (hr : (fExch Fq kq pq).1 = (kz + 1, vz)) (hC : clsW xx Fq w) : lzE xx g w (fExch Fq kq pq).2 1 (.long (xV ((fun jq => if jq = 1 then 2 else if jq = 2 then 0 else 1) (kz + 1)))) (pwX so 144 0 [some (.ref xx), some (.int kq), some (.int pq), none] [] g w) := by
  have h := w_exchange (so := so) (g := g) (kq := kq) (pq := pq) hC
  rw [hr] at h
  exact h
theorem cd_set {kq : Int32} {pq : Int32} : (fSet Fq kq pq).1.1 ≤ 1 := by
  unfold fSet
  (repeat' split) <;> first | exact Nat.zero_le _ | exact (by decide : 1 ≤ 1) | exact (by decide : 2 ≤ 1) | exact (by decide : 3 ≤ 1)
theorem hn_set_1 : pwHnd 145 3 0 = some (9, 3) := by decide +kernel
theorem w_set {kq : Int32} {pq : Int32} (hC : clsW xx Fq w) : lzE xx g w (fSet Fq kq pq).2 (if (fSet Fq kq pq).1.1 = 0 then 0 else 1) (.long (lV (fun _ => 0) (fSet Fq kq pq).1)) (pwX so 145 0 [some (.ref xx), some (.int kq), some (.int pq), none] [] g w) := by
  obtain ⟨w1, a1, a2, a3⟩ := x_set (so := so) (g := g) (xx := xx) (w := w) (Fq := Fq) (kq := kq) (pq := pq) hC
  have i6 : pwIsC w xx 6 = true := ci_ hC.1
  have hcd := cd_set (Fq := Fq) (kq := kq) (pq := pq)
  generalize hf : (fSet Fq kq pq) = rv at *
  obtain ⟨⟨cd, vz⟩, F9⟩ := rv
  dsimp only at a1 a3 hcd ⊢
  have hcc : cd = 0 ∨ cd = 1 := by omega
  rcases hcc with rfl | rfl
  · rw [oC_0] at a3
    refine ⟨g, w1, a1, a2, cst_0, ?_⟩
    simp only [s_L_set_0, s_L_set_1, s_L_set_2, s_L_set_3, s_L_set_6, s_L_set_7, i6, cond_true, a3, qAv]
    rfl
  · have a3 : pwX so 112 0 [some (.ref xx), some (.int kq), some (.int pq)] [] g w = some (.inr 0, thr g, w1) := a3
    refine ⟨thr g, w1, a1, a2, cst_t, ?_⟩
    simp only [s_L_set_0, s_L_set_1, s_L_set_2, s_L_set_3, i6, cond_true, a3]
    rw [qAh hn_set_1 rfl]
    show pwX so 145 9 [some (.ref xx), some (.int kq), some (.int pq), none] [] (thr g) w1 = _
    simp only [s_L_set_9, s_L_set_12]
    rfl
theorem v_set {kq : Int32} {pq : Int32} {vz : Int32} (hr : (fSet Fq kq pq).1 = (0, vz)) (hC : clsW xx Fq w) : lzE xx g w (fSet Fq kq pq).2 0 (.long vz.toInt64) (pwX so 145 0 [some (.ref xx), some (.int kq), some (.int pq), none] [] g w) := by
  have h := w_set (so := so) (g := g) (kq := kq) (pq := pq) hC
  rw [hr] at h
  exact h
theorem th_set {kq : Int32} {pq : Int32} {kz : Nat} {vz : Int32} (hr : (fSet Fq kq pq).1 = (kz + 1, vz)) (hC : clsW xx Fq w) : lzE xx g w (fSet Fq kq pq).2 1 (.long (xV ((fun _ => 0) (kz + 1)))) (pwX so 145 0 [some (.ref xx), some (.int kq), some (.int pq), none] [] g w) := by
  have h := w_set (so := so) (g := g) (kq := kq) (pq := pq) hC
  rw [hr] at h
  exact h
theorem cd_ticks {pq : Int32} : (fTicks Fq pq).1.1 ≤ 1 := by
  unfold fTicks
  (repeat' split) <;> first | exact Nat.zero_le _ | exact (by decide : 1 ≤ 1) | exact (by decide : 2 ≤ 1) | exact (by decide : 3 ≤ 1)
theorem hn_ticks_1 : pwHnd 146 2 0 = some (8, 2) := by decide +kernel
theorem w_ticks {pq : Int32} (hC : clsW xx Fq w) : lzE xx g w (fTicks Fq pq).2 (if (fTicks Fq pq).1.1 = 0 then 0 else 1) (.long (lV (fun _ => 0) (fTicks Fq pq).1)) (pwX so 146 0 [some (.ref xx), some (.int pq), none] [] g w) := by
  obtain ⟨w1, a1, a2, a3⟩ := x_ticks (so := so) (g := g) (xx := xx) (w := w) (Fq := Fq) (pq := pq) hC
  have i6 : pwIsC w xx 6 = true := ci_ hC.1
  have hcd := cd_ticks (Fq := Fq) (pq := pq)
  generalize hf : (fTicks Fq pq) = rv at *
  obtain ⟨⟨cd, vz⟩, F9⟩ := rv
  dsimp only at a1 a3 hcd ⊢
  have hcc : cd = 0 ∨ cd = 1 := by omega
  rcases hcc with rfl | rfl
  · rw [oC_0] at a3
    refine ⟨g, w1, a1, a2, cst_0, ?_⟩
    simp only [s_L_ticks_0, s_L_ticks_1, s_L_ticks_2, s_L_ticks_5, s_L_ticks_6, i6, cond_true, a3, qAv]
    rfl
  · have a3 : pwX so 113 0 [some (.ref xx), some (.int pq), none] [] g w = some (.inr 0, thr g, w1) := a3
    refine ⟨thr g, w1, a1, a2, cst_t, ?_⟩
    simp only [s_L_ticks_0, s_L_ticks_1, s_L_ticks_2, i6, cond_true, a3]
    rw [qAh hn_ticks_1 rfl]
    show pwX so 146 8 [some (.ref xx), some (.int pq), none] [] (thr g) w1 = _
    simp only [s_L_ticks_8, s_L_ticks_11]
    rfl
theorem v_ticks {pq : Int32} {vz : Int32} (hr : (fTicks Fq pq).1 = (0, vz)) (hC : clsW xx Fq w) : lzE xx g w (fTicks Fq pq).2 0 (.long vz.toInt64) (pwX so 146 0 [some (.ref xx), some (.int pq), none] [] g w) := by
  have h := w_ticks (so := so) (g := g) (pq := pq) hC
  rw [hr] at h
  exact h
theorem th_ticks {pq : Int32} {kz : Nat} {vz : Int32} (hr : (fTicks Fq pq).1 = (kz + 1, vz)) (hC : clsW xx Fq w) : lzE xx g w (fTicks Fq pq).2 1 (.long (xV ((fun _ => 0) (kz + 1)))) (pwX so 146 0 [some (.ref xx), some (.int pq), none] [] g w) := by
  have h := w_ticks (so := so) (g := g) (pq := pq) hC
  rw [hr] at h
  exact h
theorem cd_undo  : (fUndo Fq).1.1 ≤ 1 := by
  unfold fUndo
  (repeat' split) <;> first | exact Nat.zero_le _ | exact (by decide : 1 ≤ 1) | exact (by decide : 2 ≤ 1) | exact (by decide : 3 ≤ 1)
theorem hn_undo_1 : pwHnd 147 1 1 = some (7, 1) := by decide +kernel
theorem w_undo (hC : clsW xx Fq w) : lzE xx g w (fUndo Fq).2 (if (fUndo Fq).1.1 = 0 then 0 else 1) (.long (lV (fun _ => 1) (fUndo Fq).1)) (pwX so 147 0 [some (.ref xx), none] [] g w) := by
  obtain ⟨w1, a1, a2, a3⟩ := x_undo (so := so) (g := g) (xx := xx) (w := w) (Fq := Fq)  hC
  have i6 : pwIsC w xx 6 = true := ci_ hC.1
  have hcd := cd_undo (Fq := Fq) 
  generalize hf : (fUndo Fq) = rv at *
  obtain ⟨⟨cd, vz⟩, F9⟩ := rv
  dsimp only at a1 a3 hcd ⊢
  have hcc : cd = 0 ∨ cd = 1 := by omega
  rcases hcc with rfl | rfl
  · rw [oC_0] at a3
    refine ⟨g, w1, a1, a2, cst_0, ?_⟩
    simp only [s_L_undo_0, s_L_undo_1, s_L_undo_4, s_L_undo_5, i6, cond_true, a3, qAv]
    rfl
  · have a3 : pwX so 114 0 [some (.ref xx)] [] g w = some (.inr 1, thr g, w1) := a3
    refine ⟨thr g, w1, a1, a2, cst_t, ?_⟩
    simp only [s_L_undo_0, s_L_undo_1, i6, cond_true, a3]
    rw [qAh hn_undo_1 rfl]
    show pwX so 147 7 [some (.ref xx), none] [] (thr g) w1 = _
    simp only [s_L_undo_7, s_L_undo_10]
    rfl
theorem v_undo {vz : Int32} (hr : (fUndo Fq).1 = (0, vz)) (hC : clsW xx Fq w) : lzE xx g w (fUndo Fq).2 0 (.long vz.toInt64) (pwX so 147 0 [some (.ref xx), none] [] g w) := by
  have h := w_undo (so := so) (g := g)  hC
  rw [hr] at h
  exact h
theorem th_undo {kz : Nat} {vz : Int32} (hr : (fUndo Fq).1 = (kz + 1, vz)) (hC : clsW xx Fq w) : lzE xx g w (fUndo Fq).2 1 (.long (xV ((fun _ => 1) (kz + 1)))) (pwX so 147 0 [some (.ref xx), none] [] g w) := by
  have h := w_undo (so := so) (g := g)  hC
  rw [hr] at h
  exact h
theorem cd_later {pq : Int32} {kq : Int32} : (fLater Fq pq kq).1 ≤ 1 := by
  unfold fLater
  (repeat' split) <;> first | exact Nat.zero_le _ | exact (by decide : 1 ≤ 1) | exact (by decide : 2 ≤ 1) | exact (by decide : 3 ≤ 1)
theorem hn_later_1 : pwHnd 148 3 0 = some (9, 3) := by decide +kernel
theorem w_later {pq : Int32} {kq : Int32} (hC : clsW xx Fq w) : lzE xx g w Fq (if (fLater Fq pq kq).1 = 0 then 0 else 1) (.long (lV (fun _ => 0) (fLater Fq pq kq))) (pwX so 148 0 [some (.ref xx), some (.int pq), some (.int kq), none] [] g w) := by
  obtain ⟨w1, a1, a2, a3⟩ := x_later (so := so) (g := g) (xx := xx) (w := w) (Fq := Fq) (pq := pq) (kq := kq) hC
  have i6 : pwIsC w xx 6 = true := ci_ hC.1
  have hcd := cd_later (Fq := Fq) (pq := pq) (kq := kq)
  generalize hf : (fLater Fq pq kq) = rv at *
  obtain ⟨cd, vz⟩ := rv
  dsimp only at a1 a3 hcd ⊢
  have hcc : cd = 0 ∨ cd = 1 := by omega
  rcases hcc with rfl | rfl
  · rw [oC_0] at a3
    refine ⟨g, w1, a1, a2, cst_0, ?_⟩
    simp only [s_L_later_0, s_L_later_1, s_L_later_2, s_L_later_3, s_L_later_6, s_L_later_7, i6, cond_true, a3, qAv]
    rfl
  · have a3 : pwX so 116 0 [some (.ref xx), some (.int pq), some (.int kq)] [] g w = some (.inr 0, thr g, w1) := a3
    refine ⟨thr g, w1, a1, a2, cst_t, ?_⟩
    simp only [s_L_later_0, s_L_later_1, s_L_later_2, s_L_later_3, i6, cond_true, a3]
    rw [qAh hn_later_1 rfl]
    show pwX so 148 9 [some (.ref xx), some (.int pq), some (.int kq), none] [] (thr g) w1 = _
    simp only [s_L_later_9, s_L_later_12]
    rfl
theorem v_later {pq : Int32} {kq : Int32} {vz : Int32} (hr : (fLater Fq pq kq) = (0, vz)) (hC : clsW xx Fq w) : lzE xx g w Fq 0 (.long vz.toInt64) (pwX so 148 0 [some (.ref xx), some (.int pq), some (.int kq), none] [] g w) := by
  have h := w_later (so := so) (g := g) (pq := pq) (kq := kq) hC
  rw [hr] at h
  exact h
theorem th_later {pq : Int32} {kq : Int32} {kz : Nat} {vz : Int32} (hr : (fLater Fq pq kq) = (kz + 1, vz)) (hC : clsW xx Fq w) : lzE xx g w Fq 1 (.long (xV ((fun _ => 0) (kz + 1)))) (pwX so 148 0 [some (.ref xx), some (.int pq), some (.int kq), none] [] g w) := by
  have h := w_later (so := so) (g := g) (pq := pq) (kq := kq) hC
  rw [hr] at h
  exact h
theorem cd_bestShift {kq : Int32} : (fBShift Fq kq).1 ≤ 1 := by
  unfold fBShift
  (repeat' split) <;> first | exact Nat.zero_le _ | exact (by decide : 1 ≤ 1) | exact (by decide : 2 ≤ 1) | exact (by decide : 3 ≤ 1)
theorem hn_bestShift_1 : pwHnd 149 2 2 = some (8, 2) := by decide +kernel
theorem w_bestShift {kq : Int32} (hC : clsW xx Fq w) : lzE xx g w Fq (if (fBShift Fq kq).1 = 0 then 0 else 1) (.long (lV (fun _ => 2) (fBShift Fq kq))) (pwX so 149 0 [some (.ref xx), some (.int kq), none] [] g w) := by
  obtain ⟨w1, a1, a2, a3⟩ := x_bestShift (so := so) (g := g) (xx := xx) (w := w) (Fq := Fq) (kq := kq) hC
  have i6 : pwIsC w xx 6 = true := ci_ hC.1
  have hcd := cd_bestShift (Fq := Fq) (kq := kq)
  generalize hf : (fBShift Fq kq) = rv at *
  obtain ⟨cd, vz⟩ := rv
  dsimp only at a1 a3 hcd ⊢
  have hcc : cd = 0 ∨ cd = 1 := by omega
  rcases hcc with rfl | rfl
  · rw [oC_0] at a3
    refine ⟨g, w1, a1, a2, cst_0, ?_⟩
    simp only [s_L_bestShift_0, s_L_bestShift_1, s_L_bestShift_2, s_L_bestShift_5, s_L_bestShift_6, i6, cond_true, a3, qAv]
    rfl
  · have a3 : pwX so 118 0 [some (.ref xx), some (.int kq), none, none, none, none] [] g w = some (.inr 2, thr g, w1) := a3
    refine ⟨thr g, w1, a1, a2, cst_t, ?_⟩
    simp only [s_L_bestShift_0, s_L_bestShift_1, s_L_bestShift_2, i6, cond_true, a3]
    rw [qAh hn_bestShift_1 rfl]
    show pwX so 149 8 [some (.ref xx), some (.int kq), none] [] (thr g) w1 = _
    simp only [s_L_bestShift_8, s_L_bestShift_11]
    rfl
theorem v_bestShift {kq : Int32} {vz : Int32} (hr : (fBShift Fq kq) = (0, vz)) (hC : clsW xx Fq w) : lzE xx g w Fq 0 (.long vz.toInt64) (pwX so 149 0 [some (.ref xx), some (.int kq), none] [] g w) := by
  have h := w_bestShift (so := so) (g := g) (kq := kq) hC
  rw [hr] at h
  exact h
theorem th_bestShift {kq : Int32} {kz : Nat} {vz : Int32} (hr : (fBShift Fq kq) = (kz + 1, vz)) (hC : clsW xx Fq w) : lzE xx g w Fq 1 (.long (xV ((fun _ => 2) (kz + 1)))) (pwX so 149 0 [some (.ref xx), some (.int kq), none] [] g w) := by
  have h := w_bestShift (so := so) (g := g) (kq := kq) hC
  rw [hr] at h
  exact h
theorem cd_bestExchange {pq : Int32} : (fBest Fq pq).1 ≤ 1 := by
  unfold fBest
  (repeat' split) <;> first | exact Nat.zero_le _ | exact (by decide : 1 ≤ 1) | exact (by decide : 2 ≤ 1) | exact (by decide : 3 ≤ 1)
theorem hn_bestExchange_1 : pwHnd 150 2 0 = some (8, 2) := by decide +kernel
theorem w_bestExchange {pq : Int32} (hC : clsW xx Fq w) : lzE xx g w Fq (if (fBest Fq pq).1 = 0 then 0 else 1) (.long (lV (fun _ => 0) (fBest Fq pq))) (pwX so 150 0 [some (.ref xx), some (.int pq), none] [] g w) := by
  obtain ⟨w1, a1, a2, a3⟩ := x_bestExch (so := so) (g := g) (xx := xx) (w := w) (Fq := Fq) (pq := pq) hC
  have i6 : pwIsC w xx 6 = true := ci_ hC.1
  have hcd := cd_bestExchange (Fq := Fq) (pq := pq)
  generalize hf : (fBest Fq pq) = rv at *
  obtain ⟨cd, vz⟩ := rv
  dsimp only at a1 a3 hcd ⊢
  have hcc : cd = 0 ∨ cd = 1 := by omega
  rcases hcc with rfl | rfl
  · rw [oC_0] at a3
    refine ⟨g, w1, a1, a2, cst_0, ?_⟩
    simp only [s_L_bestExchange_0, s_L_bestExchange_1, s_L_bestExchange_2, s_L_bestExchange_5, s_L_bestExchange_6, i6, cond_true, a3, qAv]
    rfl
  · have a3 : pwX so 119 0 [some (.ref xx), some (.int pq), none, none, none, none, none, none] [] g w = some (.inr 0, thr g, w1) := a3
    refine ⟨thr g, w1, a1, a2, cst_t, ?_⟩
    simp only [s_L_bestExchange_0, s_L_bestExchange_1, s_L_bestExchange_2, i6, cond_true, a3]
    rw [qAh hn_bestExchange_1 rfl]
    show pwX so 150 8 [some (.ref xx), some (.int pq), none] [] (thr g) w1 = _
    simp only [s_L_bestExchange_8, s_L_bestExchange_11]
    rfl
theorem v_bestExchange {pq : Int32} {vz : Int32} (hr : (fBest Fq pq) = (0, vz)) (hC : clsW xx Fq w) : lzE xx g w Fq 0 (.long vz.toInt64) (pwX so 150 0 [some (.ref xx), some (.int pq), none] [] g w) := by
  have h := w_bestExchange (so := so) (g := g) (pq := pq) hC
  rw [hr] at h
  exact h
theorem th_bestExchange {pq : Int32} {kz : Nat} {vz : Int32} (hr : (fBest Fq pq) = (kz + 1, vz)) (hC : clsW xx Fq w) : lzE xx g w Fq 1 (.long (xV ((fun _ => 0) (kz + 1)))) (pwX so 150 0 [some (.ref xx), some (.int pq), none] [] g w) := by
  have h := w_bestExchange (so := so) (g := g) (pq := pq) hC
  rw [hr] at h
  exact h
theorem cd_script {pq : Int32} {sz : Int64} : (fScr Fq pq sz).1 ≤ 1 := by
  unfold fScr
  (repeat' split) <;> first | exact Nat.zero_le _ | exact (by decide : 1 ≤ 1) | exact (by decide : 2 ≤ 1) | exact (by decide : 3 ≤ 1)
theorem hn_script_1 : pwHnd 151 3 0 = some (10, 4) := by decide +kernel
theorem w_script {pq : Int32} {sz : Int64} (hC : clsW xx Fq w) : lzE xx g w Fq (if (fScr Fq pq sz).1 = 0 then 0 else 1) (.long (lV (fun _ => 0) (fScr Fq pq sz))) (pwX so 151 0 [some (.ref xx), some (.int pq), some (.long sz), none, none] [] g w) := by
  obtain ⟨w1, a1, a2, a3⟩ := x_scr (so := so) (g := g) (xx := xx) (w := w) (Fq := Fq) (pq := pq) (sz := sz) hC
  have i6 : pwIsC w xx 6 = true := ci_ hC.1
  have hcd := cd_script (Fq := Fq) (pq := pq) (sz := sz)
  generalize hf : (fScr Fq pq sz) = rv at *
  obtain ⟨cd, vz⟩ := rv
  dsimp only at a1 a3 hcd ⊢
  have hcc : cd = 0 ∨ cd = 1 := by omega
  rcases hcc with rfl | rfl
  · rw [oC_0] at a3
    refine ⟨g, w1, a1, a2, cst_0, ?_⟩
    simp only [s_L_script_0, s_L_script_1, s_L_script_2, s_L_script_3, s_L_script_6, s_L_script_7, i6, cond_true, a3, qAv]
    rfl
  · have a3 : pwX so 121 0 [some (.ref xx), some (.int pq), some (.long sz), none, none, none] [] g w = some (.inr 0, thr g, w1) := a3
    refine ⟨thr g, w1, a1, a2, cst_t, ?_⟩
    simp only [s_L_script_0, s_L_script_1, s_L_script_2, s_L_script_3, i6, cond_true, a3]
    rw [qAh hn_script_1 rfl]
    show pwX so 151 10 [some (.ref xx), some (.int pq), some (.long sz), none, none] [] (thr g) w1 = _
    simp only [s_L_script_10, s_L_script_13]
    rfl
theorem v_script {pq : Int32} {sz : Int64} {vz : Int32} (hr : (fScr Fq pq sz) = (0, vz)) (hC : clsW xx Fq w) : lzE xx g w Fq 0 (.long vz.toInt64) (pwX so 151 0 [some (.ref xx), some (.int pq), some (.long sz), none, none] [] g w) := by
  have h := w_script (so := so) (g := g) (pq := pq) (sz := sz) hC
  rw [hr] at h
  exact h
theorem th_script {pq : Int32} {sz : Int64} {kz : Nat} {vz : Int32} (hr : (fScr Fq pq sz) = (kz + 1, vz)) (hC : clsW xx Fq w) : lzE xx g w Fq 1 (.long (xV ((fun _ => 0) (kz + 1)))) (pwX so 151 0 [some (.ref xx), some (.int pq), some (.long sz), none, none] [] g w) := by
  have h := w_script (so := so) (g := g) (pq := pq) (sz := sz) hC
  rw [hr] at h
  exact h
theorem cd_simulate {sz : Int64} {pq : Int32} : (fSim Fq sz pq).1 ≤ 1 := by
  unfold fSim
  (repeat' split) <;> first | exact Nat.zero_le _ | exact (by decide : 1 ≤ 1) | exact (by decide : 2 ≤ 1) | exact (by decide : 3 ≤ 1)
theorem hn_simulate_1 : pwHnd 152 3 0 = some (10, 4) := by decide +kernel
theorem w_simulate {sz : Int64} {pq : Int32} (hC : clsW xx Fq w) : lzE xx g w Fq (if (fSim Fq sz pq).1 = 0 then 0 else 1) (.long (lV (fun _ => 0) (fSim Fq sz pq))) (pwX so 152 0 [some (.ref xx), some (.long sz), none, some (.int pq), none] [] g w) := by
  obtain ⟨w1, a1, a2, a3⟩ := x_sim (so := so) (g := g) (xx := xx) (w := w) (Fq := Fq) (sz := sz) (pq := pq) hC
  have i6 : pwIsC w xx 6 = true := ci_ hC.1
  have hcd := cd_simulate (Fq := Fq) (sz := sz) (pq := pq)
  generalize hf : (fSim Fq sz pq) = rv at *
  obtain ⟨cd, vz⟩ := rv
  dsimp only at a1 a3 hcd ⊢
  have hcc : cd = 0 ∨ cd = 1 := by omega
  rcases hcc with rfl | rfl
  · rw [oC_0] at a3
    refine ⟨g, w1, a1, a2, cst_0, ?_⟩
    simp only [s_L_simulate_0, s_L_simulate_1, s_L_simulate_2, s_L_simulate_3, s_L_simulate_6, s_L_simulate_7, i6, cond_true, a3, qAv]
    rfl
  · have a3 : pwX so 122 0 [some (.ref xx), some (.long sz), none, some (.int pq), none, none, none] [] g w = some (.inr 0, thr g, w1) := a3
    refine ⟨thr g, w1, a1, a2, cst_t, ?_⟩
    simp only [s_L_simulate_0, s_L_simulate_1, s_L_simulate_2, s_L_simulate_3, i6, cond_true, a3]
    rw [qAh hn_simulate_1 rfl]
    show pwX so 152 10 [some (.ref xx), some (.long sz), none, some (.int pq), none] [] (thr g) w1 = _
    simp only [s_L_simulate_10, s_L_simulate_13]
    rfl
theorem v_simulate {sz : Int64} {pq : Int32} {vz : Int32} (hr : (fSim Fq sz pq) = (0, vz)) (hC : clsW xx Fq w) : lzE xx g w Fq 0 (.long vz.toInt64) (pwX so 152 0 [some (.ref xx), some (.long sz), none, some (.int pq), none] [] g w) := by
  have h := w_simulate (so := so) (g := g) (sz := sz) (pq := pq) hC
  rw [hr] at h
  exact h
theorem th_simulate {sz : Int64} {pq : Int32} {kz : Nat} {vz : Int32} (hr : (fSim Fq sz pq) = (kz + 1, vz)) (hC : clsW xx Fq w) : lzE xx g w Fq 1 (.long (xV ((fun _ => 0) (kz + 1)))) (pwX so 152 0 [some (.ref xx), some (.long sz), none, some (.int pq), none] [] g w) := by
  have h := w_simulate (so := so) (g := g) (sz := sz) (pq := pq) hC
  rw [hr] at h
  exact h
theorem cd_save {kq : Int32} : (fSave Fq kq).1.1 ≤ 1 := by
  unfold fSave
  (repeat' split) <;> first | exact Nat.zero_le _ | exact (by decide : 1 ≤ 1) | exact (by decide : 2 ≤ 1) | exact (by decide : 3 ≤ 1)
theorem hn_save_1 : pwHnd 153 2 2 = some (8, 2) := by decide +kernel
theorem w_save {kq : Int32} (hC : clsW xx Fq w) : lzE xx g w (fSave Fq kq).2 (if (fSave Fq kq).1.1 = 0 then 0 else 1) (.long (lV (fun _ => 2) (fSave Fq kq).1)) (pwX so 153 0 [some (.ref xx), some (.int kq), none] [] g w) := by
  obtain ⟨w1, a1, a2, a3⟩ := x_save (so := so) (g := g) (xx := xx) (w := w) (Fq := Fq) (kq := kq) hC
  have i6 : pwIsC w xx 6 = true := ci_ hC.1
  have hcd := cd_save (Fq := Fq) (kq := kq)
  generalize hf : (fSave Fq kq) = rv at *
  obtain ⟨⟨cd, vz⟩, F9⟩ := rv
  dsimp only at a1 a3 hcd ⊢
  have hcc : cd = 0 ∨ cd = 1 := by omega
  rcases hcc with rfl | rfl
  · rw [oC_0] at a3
    refine ⟨g, w1, a1, a2, cst_0, ?_⟩
    simp only [s_L_save_0, s_L_save_1, s_L_save_2, s_L_save_5, s_L_save_6, i6, cond_true, a3, qAv]
    rfl
  · have a3 : pwX so 124 0 [some (.ref xx), some (.int kq), none] [] g w = some (.inr 2, thr g, w1) := a3
    refine ⟨thr g, w1, a1, a2, cst_t, ?_⟩
    simp only [s_L_save_0, s_L_save_1, s_L_save_2, i6, cond_true, a3]
    rw [qAh hn_save_1 rfl]
    show pwX so 153 8 [some (.ref xx), some (.int kq), none] [] (thr g) w1 = _
    simp only [s_L_save_8, s_L_save_11]
    rfl
theorem v_save {kq : Int32} {vz : Int32} (hr : (fSave Fq kq).1 = (0, vz)) (hC : clsW xx Fq w) : lzE xx g w (fSave Fq kq).2 0 (.long vz.toInt64) (pwX so 153 0 [some (.ref xx), some (.int kq), none] [] g w) := by
  have h := w_save (so := so) (g := g) (kq := kq) hC
  rw [hr] at h
  exact h
theorem th_save {kq : Int32} {kz : Nat} {vz : Int32} (hr : (fSave Fq kq).1 = (kz + 1, vz)) (hC : clsW xx Fq w) : lzE xx g w (fSave Fq kq).2 1 (.long (xV ((fun _ => 2) (kz + 1)))) (pwX so 153 0 [some (.ref xx), some (.int kq), none] [] g w) := by
  have h := w_save (so := so) (g := g) (kq := kq) hC
  rw [hr] at h
  exact h
theorem cd_restore {kq : Int32} : (fRest Fq kq).1.1 ≤ 2 := by
  unfold fRest
  (repeat' split) <;> first | exact Nat.zero_le _ | exact (by decide : 1 ≤ 2) | exact (by decide : 2 ≤ 2) | exact (by decide : 3 ≤ 2)
theorem hn_restore_1 : pwHnd 154 2 2 = some (8, 2) := by decide +kernel
theorem hn_restore_2 : pwHnd 154 2 1 = some (13, 2) := by decide +kernel
theorem w_restore {kq : Int32} (hC : clsW xx Fq w) : lzE xx g w (fRest Fq kq).2 (if (fRest Fq kq).1.1 = 0 then 0 else 1) (.long (lV (fun jq => if jq = 1 then 2 else 1) (fRest Fq kq).1)) (pwX so 154 0 [some (.ref xx), some (.int kq), none] [] g w) := by
  obtain ⟨w1, a1, a2, a3⟩ := x_rest (so := so) (g := g) (xx := xx) (w := w) (Fq := Fq) (kq := kq) hC
  have i6 : pwIsC w xx 6 = true := ci_ hC.1
  have hcd := cd_restore (Fq := Fq) (kq := kq)
  generalize hf : (fRest Fq kq) = rv at *
  obtain ⟨⟨cd, vz⟩, F9⟩ := rv
  dsimp only at a1 a3 hcd ⊢
  have hcc : cd = 0 ∨ cd = 1 ∨ cd = 2 := by omega
  rcases hcc with rfl | rfl | rfl
  · rw [oC_0] at a3
    refine ⟨g, w1, a1, a2, cst_0, ?_⟩
    simp only [s_L_restore_0, s_L_restore_1, s_L_restore_2, s_L_restore_5, s_L_restore_6, i6, cond_true, a3, qAv]
    rfl
  · have a3 : pwX so 125 0 [some (.ref xx), some (.int kq), none] [] g w = some (.inr 2, thr g, w1) := a3
    refine ⟨thr g, w1, a1, a2, cst_t, ?_⟩
    simp only [s_L_restore_0, s_L_restore_1, s_L_restore_2, i6, cond_true, a3]
    rw [qAh hn_restore_1 rfl]
    show pwX so 154 8 [some (.ref xx), some (.int kq), none] [] (thr g) w1 = _
    simp only [s_L_restore_8, s_L_restore_11]
    rfl
  · have a3 : pwX so 125 0 [some (.ref xx), some (.int kq), none] [] g w = some (.inr 1, thr g, w1) := a3
    refine ⟨thr g, w1, a1, a2, cst_t, ?_⟩
    simp only [s_L_restore_0, s_L_restore_1, s_L_restore_2, i6, cond_true, a3]
    rw [qAh hn_restore_2 rfl]
    show pwX so 154 13 [some (.ref xx), some (.int kq), none] [] (thr g) w1 = _
    simp only [s_L_restore_13, s_L_restore_16]
    rfl
theorem v_restore {kq : Int32} {vz : Int32} (hr : (fRest Fq kq).1 = (0, vz)) (hC : clsW xx Fq w) : lzE xx g w (fRest Fq kq).2 0 (.long vz.toInt64) (pwX so 154 0 [some (.ref xx), some (.int kq), none] [] g w) := by
  have h := w_restore (so := so) (g := g) (kq := kq) hC
  rw [hr] at h
  exact h
theorem th_restore {kq : Int32} {kz : Nat} {vz : Int32} (hr : (fRest Fq kq).1 = (kz + 1, vz)) (hC : clsW xx Fq w) : lzE xx g w (fRest Fq kq).2 1 (.long (xV ((fun jq => if jq = 1 then 2 else 1) (kz + 1)))) (pwX so 154 0 [some (.ref xx), some (.int kq), none] [] g w) := by
  have h := w_restore (so := so) (g := g) (kq := kq) hC
  rw [hr] at h
  exact h
theorem d_clearText (hC : clsW xx Fq w) : lzE xx g w (fClr Fq).2 0 (.int (fClr Fq).1.2) (pwX so 97 0 [some (.ref xx)] [] g w) := by
  obtain ⟨w1, a1, a2, a3⟩ := x_clr (so := so) (g := g) (xx := xx) (w := w) (Fq := Fq) hC
  exact ⟨g, w1, a1, a2, cst_0, a3⟩
theorem d_errorPosition (hs : soW so xx w) (hC : clsW xx Fq w) : lzE xx g w Fq 0 (.int (fErrP Fq).2) (pwX so 98 0 [some (.ref xx)] [] g w) := by
  obtain ⟨w1, a1, a2, a3⟩ := x_err (so := so) (g := g) (xx := xx) (w := w) (Fq := Fq) hs hC
  exact ⟨g, w1, a1, a2, cst_0, a3⟩
theorem d_back (hC : clsW xx Fq w) : lzE xx g w (fBack Fq).2 0 (.int (fBack Fq).1.2) (pwX so 111 0 [some (.ref xx)] [] g w) := by
  obtain ⟨w1, a1, a2, a3⟩ := x_back (so := so) (g := g) (xx := xx) (w := w) (Fq := Fq) hC
  exact ⟨g, w1, a1, a2, cst_0, a3⟩
theorem d_allIn (hC : clsW xx Fq w) : lzE xx g w Fq 0 (.int (tIn 1000 0 Fq.2.1)) (pwX so 115 0 [some (.ref xx)] [] g w) := by
  obtain ⟨w1, a1, a2, a3⟩ := x_allIn (so := so) (g := g) (xx := xx) (w := w) (Fq := Fq) hC
  exact ⟨g, w1, a1, a2, cst_0, a3⟩
theorem d_bestRule (hC : clsW xx Fq w) : lzE xx g w Fq 0 (.int (zN (am (rlF Fq.2.1) 4))) (pwX so 117 0 [some (.ref xx), none, none, none, none] [] g w) := by
  obtain ⟨w1, a1, a2, a3⟩ := x_bestRule (so := so) (g := g) (xx := xx) (w := w) (Fq := Fq) hC
  exact ⟨g, w1, a1, a2, cst_0, a3⟩
end QA
