/-! the pure part: the law's wrappers: a throw becomes a number -/
theorem qAh {f9 : pwFF} {mi pc pc2 hp hv e9 : Nat} {L : pwLL} {c1 : Nat × pwLL} {st : List Value} {g : pwG} {w : pwW} (h : pwHnd mi pc e9 = some (hp, hv)) (h2 : (pwFr L hv && Nat.blt hv L.length) = true) : pwAft f9 mi pc L (c1, pc2, st) (some (.inr e9, g, w)) = f9 mi hp (L.set hv none) [] g w := by
  unfold pwAft
  dsimp only
  rw [h]
  dsimp only
  rw [h2]
  rfl
def lwR (oo cd : Nat) (vq : Int32) (fz : Nat → Int64) (g : pwG) (w1 : pwW) : pwO := if cd = 0 then (.inl (some (.int (zN 0))), g, va_up w1 oo (.inl (1, 1, .inr (.inl (vp_updL fz 0 vq.toInt64))))) else (.inl (some (.int (zN cd))), thr g, w1)
section QA
variable {so : Nat → Nat} {g : pwG} {xx oo cd : Nat} {w w1 : pwW} {vq : Int32} {fz : Nat → Int64}
theorem stJ {xq : Int64} (ho : w1 oo = .inl (1, 1, .inr (.inl fz))) : pwStJ w1 oo (zN 0) xq = some (va_up w1 oo (.inl (1, 1, .inr (.inl (vp_updL fz 0 xq))))) := by
  unfold pwStJ
  rw [ho]
  rfl
theorem ldJ (ho : w oo = .inl (1, 1, .inr (.inl fz))) : pwLdJ w oo (zN 0) = some (fz 0) := by
  unfold pwLdJ
  rw [ho]
  rfl
theorem cs_le {nz : Nat} (h : cd ≤ nz) : cd = 0 ∨ (0 < cd ∧ cd ≤ nz) := by omega
theorem hn_append_1 : pwHnd 220 4 0 = some (13, 3) := by decide +kernel
theorem hn_append_2 : pwHnd 220 4 1 = some (16, 3) := by decide +kernel
theorem l_append {kq : Int32} (hx : pwIsC w xx 6 = true) (h : pwX so 96 0 [some (.ref xx), some (.int kq)] [] g w = some (oC (fun jq => if jq = 1 then 0 else 1) (cd, vq) g w1)) (hc : cd ≤ 2) (ho : w1 oo = .inl (1, 1, .inr (.inl fz))) : pwX so 220 0 [some (.ref xx), some (.int kq), some (.ref oo), none] [] g w = some (lwR oo cd vq fz g w1) := by
  have hj := fun (x9 : Int64) => stJ (xq := x9) ho
  have hcc : cd = 0 ∨ cd = 1 ∨ cd = 2 := by omega
  rcases hcc with rfl | rfl | rfl
  · rw [oC_0] at h
    simp only [s_L_append_0, s_L_append_1, s_L_append_2, s_L_append_3, s_L_append_4, s_L_append_7, s_L_append_8, s_L_append_9, s_L_append_13, s_L_append_14, s_L_append_16, s_L_append_17, s_L_append_18, s_L_append_19, nL0, hx, cond_true, h, qAv, hj, Option.bind_some]
    rfl
  · have h : pwX so 96 0 [some (.ref xx), some (.int kq)] [] g w = some (.inr 0, thr g, w1) := h
    simp only [s_L_append_0, s_L_append_1, s_L_append_2, s_L_append_3, s_L_append_4, nL0, hx, cond_true, h]
    rw [qAh hn_append_1 rfl]
    show pwX so 220 13 [some (.ref xx), some (.int kq), some (.ref oo), none] [] (thr g) w1 = _
    simp only [s_L_append_13, s_L_append_14, s_L_append_16, s_L_append_17, s_L_append_18, s_L_append_19]
    rfl
  · have h : pwX so 96 0 [some (.ref xx), some (.int kq)] [] g w = some (.inr 1, thr g, w1) := h
    simp only [s_L_append_0, s_L_append_1, s_L_append_2, s_L_append_3, s_L_append_4, nL0, hx, cond_true, h]
    rw [qAh hn_append_2 rfl]
    show pwX so 220 16 [some (.ref xx), some (.int kq), some (.ref oo), none] [] (thr g) w1 = _
    simp only [s_L_append_16, s_L_append_17, s_L_append_18, s_L_append_19]
    rfl
theorem hn_load_1 : pwHnd 221 3 1 = some (12, 2) := by decide +kernel
theorem l_load  (hx : pwIsC w xx 6 = true) (h : pwX so 99 0 [some (.ref xx), none, none] [] g w = some (oC (fun _ => 1) (cd, vq) g w1)) (hc : cd ≤ 1) (ho : w1 oo = .inl (1, 1, .inr (.inl fz))) : pwX so 221 0 [some (.ref xx), some (.ref oo), none] [] g w = some (lwR oo cd vq fz g w1) := by
  have hj := fun (x9 : Int64) => stJ (xq := x9) ho
  have hcc : cd = 0 ∨ cd = 1 := by omega
  rcases hcc with rfl | rfl
  · rw [oC_0] at h
    simp only [s_L_load_0, s_L_load_1, s_L_load_2, s_L_load_3, s_L_load_6, s_L_load_7, s_L_load_8, s_L_load_12, s_L_load_13, s_L_load_14, s_L_load_15, nL0, hx, cond_true, h, qAv, hj, Option.bind_some]
    rfl
  · have h : pwX so 99 0 [some (.ref xx), none, none] [] g w = some (.inr 1, thr g, w1) := h
    simp only [s_L_load_0, s_L_load_1, s_L_load_2, s_L_load_3, nL0, hx, cond_true, h]
    rw [qAh hn_load_1 rfl]
    show pwX so 221 12 [some (.ref xx), some (.ref oo), none] [] (thr g) w1 = _
    simp only [s_L_load_12, s_L_load_13, s_L_load_14, s_L_load_15]
    rfl
theorem hn_about_1 : pwHnd 222 4 0 = some (13, 3) := by decide +kernel
theorem l_about {pq : Int32} (hx : pwIsC w xx 6 = true) (h : pwX so 100 0 [some (.ref xx), some (.int pq)] [] g w = some (oC (fun _ => 0) (cd, vq) g w1)) (hc : cd ≤ 1) (ho : w1 oo = .inl (1, 1, .inr (.inl fz))) : pwX so 222 0 [some (.ref xx), some (.int pq), some (.ref oo), none] [] g w = some (lwR oo cd vq fz g w1) := by
  have hj := fun (x9 : Int64) => stJ (xq := x9) ho
  have hcc : cd = 0 ∨ cd = 1 := by omega
  rcases hcc with rfl | rfl
  · rw [oC_0] at h
    simp only [s_L_about_0, s_L_about_1, s_L_about_2, s_L_about_3, s_L_about_4, s_L_about_7, s_L_about_8, s_L_about_9, s_L_about_13, s_L_about_14, s_L_about_15, s_L_about_16, nL0, hx, cond_true, h, qAv, hj, Option.bind_some]
    rfl
  · have h : pwX so 100 0 [some (.ref xx), some (.int pq)] [] g w = some (.inr 0, thr g, w1) := h
    simp only [s_L_about_0, s_L_about_1, s_L_about_2, s_L_about_3, s_L_about_4, nL0, hx, cond_true, h]
    rw [qAh hn_about_1 rfl]
    show pwX so 222 13 [some (.ref xx), some (.int pq), some (.ref oo), none] [] (thr g) w1 = _
    simp only [s_L_about_13, s_L_about_14, s_L_about_15, s_L_about_16]
    rfl
theorem hn_walkerOf_1 : pwHnd 223 5 2 = some (15, 4) := by decide +kernel
theorem hn_walkerOf_2 : pwHnd 223 5 0 = some (19, 4) := by decide +kernel
theorem l_walkerOf {kq : Int32} {pq : Int32} (hx : pwIsC w xx 6 = true) (h : pwX so 101 0 [some (.ref xx), some (.int kq), some (.int pq)] [] g w = some (oC (fun jq => if jq = 1 then 2 else 0) (cd, vq) g w1)) (hc : cd ≤ 2) (ho : w1 oo = .inl (1, 1, .inr (.inl fz))) : pwX so 223 0 [some (.ref xx), some (.int kq), some (.int pq), some (.ref oo), none] [] g w = some (lwR oo cd vq fz g w1) := by
  have hj := fun (x9 : Int64) => stJ (xq := x9) ho
  have hcc : cd = 0 ∨ cd = 1 ∨ cd = 2 := by omega
  rcases hcc with rfl | rfl | rfl
  · rw [oC_0] at h
    simp only [s_L_walkerOf_0, s_L_walkerOf_1, s_L_walkerOf_2, s_L_walkerOf_3, s_L_walkerOf_4, s_L_walkerOf_5, s_L_walkerOf_8, s_L_walkerOf_9, s_L_walkerOf_10, s_L_walkerOf_15, s_L_walkerOf_16, s_L_walkerOf_19, s_L_walkerOf_20, s_L_walkerOf_21, s_L_walkerOf_22, nL0, hx, cond_true, h, qAv, hj, Option.bind_some]
    rfl
  · have h : pwX so 101 0 [some (.ref xx), some (.int kq), some (.int pq)] [] g w = some (.inr 2, thr g, w1) := h
    simp only [s_L_walkerOf_0, s_L_walkerOf_1, s_L_walkerOf_2, s_L_walkerOf_3, s_L_walkerOf_4, s_L_walkerOf_5, nL0, hx, cond_true, h]
    rw [qAh hn_walkerOf_1 rfl]
    show pwX so 223 15 [some (.ref xx), some (.int kq), some (.int pq), some (.ref oo), none] [] (thr g) w1 = _
    simp only [s_L_walkerOf_15, s_L_walkerOf_16, s_L_walkerOf_19, s_L_walkerOf_20, s_L_walkerOf_21, s_L_walkerOf_22]
    rfl
  · have h : pwX so 101 0 [some (.ref xx), some (.int kq), some (.int pq)] [] g w = some (.inr 0, thr g, w1) := h
    simp only [s_L_walkerOf_0, s_L_walkerOf_1, s_L_walkerOf_2, s_L_walkerOf_3, s_L_walkerOf_4, s_L_walkerOf_5, nL0, hx, cond_true, h]
    rw [qAh hn_walkerOf_2 rfl]
    show pwX so 223 19 [some (.ref xx), some (.int kq), some (.int pq), some (.ref oo), none] [] (thr g) w1 = _
    simp only [s_L_walkerOf_19, s_L_walkerOf_20, s_L_walkerOf_21, s_L_walkerOf_22]
    rfl
theorem hn_streetOf_1 : pwHnd 224 5 2 = some (15, 4) := by decide +kernel
theorem hn_streetOf_2 : pwHnd 224 5 0 = some (19, 4) := by decide +kernel
theorem l_streetOf {kq : Int32} {pq : Int32} (hx : pwIsC w xx 6 = true) (h : pwX so 102 0 [some (.ref xx), some (.int kq), some (.int pq)] [] g w = some (oC (fun jq => if jq = 1 then 2 else 0) (cd, vq) g w1)) (hc : cd ≤ 2) (ho : w1 oo = .inl (1, 1, .inr (.inl fz))) : pwX so 224 0 [some (.ref xx), some (.int kq), some (.int pq), some (.ref oo), none] [] g w = some (lwR oo cd vq fz g w1) := by
  have hj := fun (x9 : Int64) => stJ (xq := x9) ho
  have hcc : cd = 0 ∨ cd = 1 ∨ cd = 2 := by omega
  rcases hcc with rfl | rfl | rfl
  · rw [oC_0] at h
    simp only [s_L_streetOf_0, s_L_streetOf_1, s_L_streetOf_2, s_L_streetOf_3, s_L_streetOf_4, s_L_streetOf_5, s_L_streetOf_8, s_L_streetOf_9, s_L_streetOf_10, s_L_streetOf_15, s_L_streetOf_16, s_L_streetOf_19, s_L_streetOf_20, s_L_streetOf_21, s_L_streetOf_22, nL0, hx, cond_true, h, qAv, hj, Option.bind_some]
    rfl
  · have h : pwX so 102 0 [some (.ref xx), some (.int kq), some (.int pq)] [] g w = some (.inr 2, thr g, w1) := h
    simp only [s_L_streetOf_0, s_L_streetOf_1, s_L_streetOf_2, s_L_streetOf_3, s_L_streetOf_4, s_L_streetOf_5, nL0, hx, cond_true, h]
    rw [qAh hn_streetOf_1 rfl]
    show pwX so 224 15 [some (.ref xx), some (.int kq), some (.int pq), some (.ref oo), none] [] (thr g) w1 = _
    simp only [s_L_streetOf_15, s_L_streetOf_16, s_L_streetOf_19, s_L_streetOf_20, s_L_streetOf_21, s_L_streetOf_22]
    rfl
  · have h : pwX so 102 0 [some (.ref xx), some (.int kq), some (.int pq)] [] g w = some (.inr 0, thr g, w1) := h
    simp only [s_L_streetOf_0, s_L_streetOf_1, s_L_streetOf_2, s_L_streetOf_3, s_L_streetOf_4, s_L_streetOf_5, nL0, hx, cond_true, h]
    rw [qAh hn_streetOf_2 rfl]
    show pwX so 224 19 [some (.ref xx), some (.int kq), some (.int pq), some (.ref oo), none] [] (thr g) w1 = _
    simp only [s_L_streetOf_19, s_L_streetOf_20, s_L_streetOf_21, s_L_streetOf_22]
    rfl
theorem hn_cell_1 : pwHnd 225 5 2 = some (15, 4) := by decide +kernel
theorem l_cell {kq : Int32} {pq : Int32} (hx : pwIsC w xx 6 = true) (h : pwX so 103 0 [some (.ref xx), some (.int kq), some (.int pq)] [] g w = some (oC (fun _ => 2) (cd, vq) g w1)) (hc : cd ≤ 1) (ho : w1 oo = .inl (1, 1, .inr (.inl fz))) : pwX so 225 0 [some (.ref xx), some (.int kq), some (.int pq), some (.ref oo), none] [] g w = some (lwR oo cd vq fz g w1) := by
  have hj := fun (x9 : Int64) => stJ (xq := x9) ho
  have hcc : cd = 0 ∨ cd = 1 := by omega
  rcases hcc with rfl | rfl
  · rw [oC_0] at h
    simp only [s_L_cell_0, s_L_cell_1, s_L_cell_2, s_L_cell_3, s_L_cell_4, s_L_cell_5, s_L_cell_8, s_L_cell_9, s_L_cell_10, s_L_cell_15, s_L_cell_16, s_L_cell_17, s_L_cell_18, nL0, hx, cond_true, h, qAv, hj, Option.bind_some]
    rfl
  · have h : pwX so 103 0 [some (.ref xx), some (.int kq), some (.int pq)] [] g w = some (.inr 2, thr g, w1) := h
    simp only [s_L_cell_0, s_L_cell_1, s_L_cell_2, s_L_cell_3, s_L_cell_4, s_L_cell_5, nL0, hx, cond_true, h]
    rw [qAh hn_cell_1 rfl]
    show pwX so 225 15 [some (.ref xx), some (.int kq), some (.int pq), some (.ref oo), none] [] (thr g) w1 = _
    simp only [s_L_cell_15, s_L_cell_16, s_L_cell_17, s_L_cell_18]
    rfl
theorem hn_file_1 : pwHnd 226 4 2 = some (13, 3) := by decide +kernel
theorem l_file {kq : Int32} (hx : pwIsC w xx 6 = true) (h : pwX so 104 0 [some (.ref xx), some (.int kq)] [] g w = some (oC (fun _ => 2) (cd, vq) g w1)) (hc : cd ≤ 1) (ho : w1 oo = .inl (1, 1, .inr (.inl fz))) : pwX so 226 0 [some (.ref xx), some (.int kq), some (.ref oo), none] [] g w = some (lwR oo cd vq fz g w1) := by
  have hj := fun (x9 : Int64) => stJ (xq := x9) ho
  have hcc : cd = 0 ∨ cd = 1 := by omega
  rcases hcc with rfl | rfl
  · rw [oC_0] at h
    simp only [s_L_file_0, s_L_file_1, s_L_file_2, s_L_file_3, s_L_file_4, s_L_file_7, s_L_file_8, s_L_file_9, s_L_file_13, s_L_file_14, s_L_file_15, s_L_file_16, nL0, hx, cond_true, h, qAv, hj, Option.bind_some]
    rfl
  · have h : pwX so 104 0 [some (.ref xx), some (.int kq)] [] g w = some (.inr 2, thr g, w1) := h
    simp only [s_L_file_0, s_L_file_1, s_L_file_2, s_L_file_3, s_L_file_4, nL0, hx, cond_true, h]
    rw [qAh hn_file_1 rfl]
    show pwX so 226 13 [some (.ref xx), some (.int kq), some (.ref oo), none] [] (thr g) w1 = _
    simp only [s_L_file_13, s_L_file_14, s_L_file_15, s_L_file_16]
    rfl
theorem hn_read_1 : pwHnd 227 5 2 = some (15, 4) := by decide +kernel
theorem hn_read_2 : pwHnd 227 5 0 = some (19, 4) := by decide +kernel
theorem l_read {kq : Int32} {pq : Int32} (hx : pwIsC w xx 6 = true) (h : pwX so 105 0 [some (.ref xx), some (.int kq), some (.int pq)] [] g w = some (oC (fun jq => if jq = 1 then 2 else 0) (cd, vq) g w1)) (hc : cd ≤ 2) (ho : w1 oo = .inl (1, 1, .inr (.inl fz))) : pwX so 227 0 [some (.ref xx), some (.int kq), some (.int pq), some (.ref oo), none] [] g w = some (lwR oo cd vq fz g w1) := by
  have hj := fun (x9 : Int64) => stJ (xq := x9) ho
  have hcc : cd = 0 ∨ cd = 1 ∨ cd = 2 := by omega
  rcases hcc with rfl | rfl | rfl
  · rw [oC_0] at h
    simp only [s_L_read_0, s_L_read_1, s_L_read_2, s_L_read_3, s_L_read_4, s_L_read_5, s_L_read_8, s_L_read_9, s_L_read_10, s_L_read_15, s_L_read_16, s_L_read_19, s_L_read_20, s_L_read_21, s_L_read_22, nL0, hx, cond_true, h, qAv, hj, Option.bind_some]
    rfl
  · have h : pwX so 105 0 [some (.ref xx), some (.int kq), some (.int pq)] [] g w = some (.inr 2, thr g, w1) := h
    simp only [s_L_read_0, s_L_read_1, s_L_read_2, s_L_read_3, s_L_read_4, s_L_read_5, nL0, hx, cond_true, h]
    rw [qAh hn_read_1 rfl]
    show pwX so 227 15 [some (.ref xx), some (.int kq), some (.int pq), some (.ref oo), none] [] (thr g) w1 = _
    simp only [s_L_read_15, s_L_read_16, s_L_read_19, s_L_read_20, s_L_read_21, s_L_read_22]
    rfl
  · have h : pwX so 105 0 [some (.ref xx), some (.int kq), some (.int pq)] [] g w = some (.inr 0, thr g, w1) := h
    simp only [s_L_read_0, s_L_read_1, s_L_read_2, s_L_read_3, s_L_read_4, s_L_read_5, nL0, hx, cond_true, h]
    rw [qAh hn_read_2 rfl]
    show pwX so 227 19 [some (.ref xx), some (.int kq), some (.int pq), some (.ref oo), none] [] (thr g) w1 = _
    simp only [s_L_read_19, s_L_read_20, s_L_read_21, s_L_read_22]
    rfl
theorem hn_walker_1 : pwHnd 228 4 0 = some (13, 3) := by decide +kernel
theorem hn_walker_2 : pwHnd 228 4 1 = some (16, 3) := by decide +kernel
theorem l_walker {pq : Int32} (hx : pwIsC w xx 6 = true) (h : pwX so 106 0 [some (.ref xx), some (.int pq)] [] g w = some (oC (fun jq => if jq = 1 then 0 else 1) (cd, vq) g w1)) (hc : cd ≤ 2) (ho : w1 oo = .inl (1, 1, .inr (.inl fz))) : pwX so 228 0 [some (.ref xx), some (.int pq), some (.ref oo), none] [] g w = some (lwR oo cd vq fz g w1) := by
  have hj := fun (x9 : Int64) => stJ (xq := x9) ho
  have hcc : cd = 0 ∨ cd = 1 ∨ cd = 2 := by omega
  rcases hcc with rfl | rfl | rfl
  · rw [oC_0] at h
    simp only [s_L_walker_0, s_L_walker_1, s_L_walker_2, s_L_walker_3, s_L_walker_4, s_L_walker_7, s_L_walker_8, s_L_walker_9, s_L_walker_13, s_L_walker_14, s_L_walker_16, s_L_walker_17, s_L_walker_18, s_L_walker_19, nL0, hx, cond_true, h, qAv, hj, Option.bind_some]
    rfl
  · have h : pwX so 106 0 [some (.ref xx), some (.int pq)] [] g w = some (.inr 0, thr g, w1) := h
    simp only [s_L_walker_0, s_L_walker_1, s_L_walker_2, s_L_walker_3, s_L_walker_4, nL0, hx, cond_true, h]
    rw [qAh hn_walker_1 rfl]
    show pwX so 228 13 [some (.ref xx), some (.int pq), some (.ref oo), none] [] (thr g) w1 = _
    simp only [s_L_walker_13, s_L_walker_14, s_L_walker_16, s_L_walker_17, s_L_walker_18, s_L_walker_19]
    rfl
  · have h : pwX so 106 0 [some (.ref xx), some (.int pq)] [] g w = some (.inr 1, thr g, w1) := h
    simp only [s_L_walker_0, s_L_walker_1, s_L_walker_2, s_L_walker_3, s_L_walker_4, nL0, hx, cond_true, h]
    rw [qAh hn_walker_2 rfl]
    show pwX so 228 16 [some (.ref xx), some (.int pq), some (.ref oo), none] [] (thr g) w1 = _
    simp only [s_L_walker_16, s_L_walker_17, s_L_walker_18, s_L_walker_19]
    rfl
theorem hn_street_1 : pwHnd 229 9 0 = some (19, 6) := by decide +kernel
theorem hn_street_2 : pwHnd 229 9 1 = some (23, 6) := by decide +kernel
theorem l_street {pq : Int32} {rq : Int32} {tq : Int32} {uq : Int32} (hx : pwIsC w xx 6 = true) (h : pwX so 107 0 [some (.ref xx), some (.int pq), some (.int rq), some (.int tq), some (.int uq)] [] g w = some (oC (fun jq => if jq = 1 then 0 else 1) (cd, vq) g w1)) (hc : cd ≤ 2) (ho : w1 oo = .inl (1, 1, .inr (.inl fz))) : pwX so 229 0 [some (.ref xx), some (.int pq), some (.int rq), some (.int tq), some (.int uq), some (.ref oo), none] [] g w = some (lwR oo cd vq fz g w1) := by
  have hj := fun (x9 : Int64) => stJ (xq := x9) ho
  have hcc : cd = 0 ∨ cd = 1 ∨ cd = 2 := by omega
  rcases hcc with rfl | rfl | rfl
  · rw [oC_0] at h
    simp only [s_L_street_0, s_L_street_2, s_L_street_3, s_L_street_4, s_L_street_5, s_L_street_6, s_L_street_7, s_L_street_9, s_L_street_12, s_L_street_13, s_L_street_14, s_L_street_19, s_L_street_20, s_L_street_23, s_L_street_24, s_L_street_25, s_L_street_26, nL0, hx, cond_true, h, qAv, hj, Option.bind_some]
    rfl
  · have h : pwX so 107 0 [some (.ref xx), some (.int pq), some (.int rq), some (.int tq), some (.int uq)] [] g w = some (.inr 0, thr g, w1) := h
    simp only [s_L_street_0, s_L_street_2, s_L_street_3, s_L_street_4, s_L_street_5, s_L_street_6, s_L_street_7, s_L_street_9, nL0, hx, cond_true, h]
    rw [qAh hn_street_1 rfl]
    show pwX so 229 19 [some (.ref xx), some (.int pq), some (.int rq), some (.int tq), some (.int uq), some (.ref oo), none] [] (thr g) w1 = _
    simp only [s_L_street_19, s_L_street_20, s_L_street_23, s_L_street_24, s_L_street_25, s_L_street_26]
    rfl
  · have h : pwX so 107 0 [some (.ref xx), some (.int pq), some (.int rq), some (.int tq), some (.int uq)] [] g w = some (.inr 1, thr g, w1) := h
    simp only [s_L_street_0, s_L_street_2, s_L_street_3, s_L_street_4, s_L_street_5, s_L_street_6, s_L_street_7, s_L_street_9, nL0, hx, cond_true, h]
    rw [qAh hn_street_2 rfl]
    show pwX so 229 23 [some (.ref xx), some (.int pq), some (.int rq), some (.int tq), some (.int uq), some (.ref oo), none] [] (thr g) w1 = _
    simp only [s_L_street_23, s_L_street_24, s_L_street_25, s_L_street_26]
    rfl
theorem hn_shift_1 : pwHnd 230 5 2 = some (15, 4) := by decide +kernel
theorem hn_shift_2 : pwHnd 230 5 0 = some (19, 4) := by decide +kernel
theorem l_shift {kq : Int32} {pq : Int32} (hx : pwIsC w xx 6 = true) (h : pwX so 108 0 [some (.ref xx), some (.int kq), some (.int pq)] [] g w = some (oC (fun jq => if jq = 1 then 2 else 0) (cd, vq) g w1)) (hc : cd ≤ 2) (ho : w1 oo = .inl (1, 1, .inr (.inl fz))) : pwX so 230 0 [some (.ref xx), some (.int kq), some (.int pq), some (.ref oo), none] [] g w = some (lwR oo cd vq fz g w1) := by
  have hj := fun (x9 : Int64) => stJ (xq := x9) ho
  have hcc : cd = 0 ∨ cd = 1 ∨ cd = 2 := by omega
  rcases hcc with rfl | rfl | rfl
  · rw [oC_0] at h
    simp only [s_L_shift_0, s_L_shift_1, s_L_shift_2, s_L_shift_3, s_L_shift_4, s_L_shift_5, s_L_shift_8, s_L_shift_9, s_L_shift_10, s_L_shift_15, s_L_shift_16, s_L_shift_19, s_L_shift_20, s_L_shift_21, s_L_shift_22, nL0, hx, cond_true, h, qAv, hj, Option.bind_some]
    rfl
  · have h : pwX so 108 0 [some (.ref xx), some (.int kq), some (.int pq)] [] g w = some (.inr 2, thr g, w1) := h
    simp only [s_L_shift_0, s_L_shift_1, s_L_shift_2, s_L_shift_3, s_L_shift_4, s_L_shift_5, nL0, hx, cond_true, h]
    rw [qAh hn_shift_1 rfl]
    show pwX so 230 15 [some (.ref xx), some (.int kq), some (.int pq), some (.ref oo), none] [] (thr g) w1 = _
    simp only [s_L_shift_15, s_L_shift_16, s_L_shift_19, s_L_shift_20, s_L_shift_21, s_L_shift_22]
    rfl
  · have h : pwX so 108 0 [some (.ref xx), some (.int kq), some (.int pq)] [] g w = some (.inr 0, thr g, w1) := h
    simp only [s_L_shift_0, s_L_shift_1, s_L_shift_2, s_L_shift_3, s_L_shift_4, s_L_shift_5, nL0, hx, cond_true, h]
    rw [qAh hn_shift_2 rfl]
    show pwX so 230 19 [some (.ref xx), some (.int kq), some (.int pq), some (.ref oo), none] [] (thr g) w1 = _
    simp only [s_L_shift_19, s_L_shift_20, s_L_shift_21, s_L_shift_22]
    rfl
theorem hn_letter_1 : pwHnd 231 5 2 = some (15, 4) := by decide +kernel
theorem hn_letter_2 : pwHnd 231 5 0 = some (19, 4) := by decide +kernel
theorem l_letter {kq : Int32} {pq : Int32} (hx : pwIsC w xx 6 = true) (h : pwX so 109 0 [some (.ref xx), some (.int kq), some (.int pq)] [] g w = some (oC (fun jq => if jq = 1 then 2 else 0) (cd, vq) g w1)) (hc : cd ≤ 2) (ho : w1 oo = .inl (1, 1, .inr (.inl fz))) : pwX so 231 0 [some (.ref xx), some (.int kq), some (.int pq), some (.ref oo), none] [] g w = some (lwR oo cd vq fz g w1) := by
  have hj := fun (x9 : Int64) => stJ (xq := x9) ho
  have hcc : cd = 0 ∨ cd = 1 ∨ cd = 2 := by omega
  rcases hcc with rfl | rfl | rfl
  · rw [oC_0] at h
    simp only [s_L_letter_0, s_L_letter_1, s_L_letter_2, s_L_letter_3, s_L_letter_4, s_L_letter_5, s_L_letter_8, s_L_letter_9, s_L_letter_10, s_L_letter_15, s_L_letter_16, s_L_letter_19, s_L_letter_20, s_L_letter_21, s_L_letter_22, nL0, hx, cond_true, h, qAv, hj, Option.bind_some]
    rfl
  · have h : pwX so 109 0 [some (.ref xx), some (.int kq), some (.int pq)] [] g w = some (.inr 2, thr g, w1) := h
    simp only [s_L_letter_0, s_L_letter_1, s_L_letter_2, s_L_letter_3, s_L_letter_4, s_L_letter_5, nL0, hx, cond_true, h]
    rw [qAh hn_letter_1 rfl]
    show pwX so 231 15 [some (.ref xx), some (.int kq), some (.int pq), some (.ref oo), none] [] (thr g) w1 = _
    simp only [s_L_letter_15, s_L_letter_16, s_L_letter_19, s_L_letter_20, s_L_letter_21, s_L_letter_22]
    rfl
  · have h : pwX so 109 0 [some (.ref xx), some (.int kq), some (.int pq)] [] g w = some (.inr 0, thr g, w1) := h
    simp only [s_L_letter_0, s_L_letter_1, s_L_letter_2, s_L_letter_3, s_L_letter_4, s_L_letter_5, nL0, hx, cond_true, h]
    rw [qAh hn_letter_2 rfl]
    show pwX so 231 19 [some (.ref xx), some (.int kq), some (.int pq), some (.ref oo), none] [] (thr g) w1 = _
    simp only [s_L_letter_19, s_L_letter_20, s_L_letter_21, s_L_letter_22]
    rfl
theorem hn_exchange_1 : pwHnd 232 5 2 = some (15, 4) := by decide +kernel
theorem hn_exchange_2 : pwHnd 232 5 0 = some (19, 4) := by decide +kernel
theorem hn_exchange_3 : pwHnd 232 5 1 = some (23, 4) := by decide +kernel
theorem l_exchange {kq : Int32} {pq : Int32} (hx : pwIsC w xx 6 = true) (h : pwX so 110 0 [some (.ref xx), some (.int kq), some (.int pq)] [] g w = some (oC (fun jq => if jq = 1 then 2 else if jq = 2 then 0 else 1) (cd, vq) g w1)) (hc : cd ≤ 3) (ho : w1 oo = .inl (1, 1, .inr (.inl fz))) : pwX so 232 0 [some (.ref xx), some (.int kq), some (.int pq), some (.ref oo), none] [] g w = some (lwR oo cd vq fz g w1) := by
  have hj := fun (x9 : Int64) => stJ (xq := x9) ho
  have hcc : cd = 0 ∨ cd = 1 ∨ cd = 2 ∨ cd = 3 := by omega
  rcases hcc with rfl | rfl | rfl | rfl
  · rw [oC_0] at h
    simp only [s_L_exchange_0, s_L_exchange_1, s_L_exchange_2, s_L_exchange_3, s_L_exchange_4, s_L_exchange_5, s_L_exchange_8, s_L_exchange_9, s_L_exchange_10, s_L_exchange_15, s_L_exchange_16, s_L_exchange_19, s_L_exchange_20, s_L_exchange_23, s_L_exchange_24, s_L_exchange_25, s_L_exchange_26, nL0, hx, cond_true, h, qAv, hj, Option.bind_some]
    rfl
  · have h : pwX so 110 0 [some (.ref xx), some (.int kq), some (.int pq)] [] g w = some (.inr 2, thr g, w1) := h
    simp only [s_L_exchange_0, s_L_exchange_1, s_L_exchange_2, s_L_exchange_3, s_L_exchange_4, s_L_exchange_5, nL0, hx, cond_true, h]
    rw [qAh hn_exchange_1 rfl]
    show pwX so 232 15 [some (.ref xx), some (.int kq), some (.int pq), some (.ref oo), none] [] (thr g) w1 = _
    simp only [s_L_exchange_15, s_L_exchange_16, s_L_exchange_19, s_L_exchange_20, s_L_exchange_23, s_L_exchange_24, s_L_exchange_25, s_L_exchange_26]
    rfl
  · have h : pwX so 110 0 [some (.ref xx), some (.int kq), some (.int pq)] [] g w = some (.inr 0, thr g, w1) := h
    simp only [s_L_exchange_0, s_L_exchange_1, s_L_exchange_2, s_L_exchange_3, s_L_exchange_4, s_L_exchange_5, nL0, hx, cond_true, h]
    rw [qAh hn_exchange_2 rfl]
    show pwX so 232 19 [some (.ref xx), some (.int kq), some (.int pq), some (.ref oo), none] [] (thr g) w1 = _
    simp only [s_L_exchange_19, s_L_exchange_20, s_L_exchange_23, s_L_exchange_24, s_L_exchange_25, s_L_exchange_26]
    rfl
  · have h : pwX so 110 0 [some (.ref xx), some (.int kq), some (.int pq)] [] g w = some (.inr 1, thr g, w1) := h
    simp only [s_L_exchange_0, s_L_exchange_1, s_L_exchange_2, s_L_exchange_3, s_L_exchange_4, s_L_exchange_5, nL0, hx, cond_true, h]
    rw [qAh hn_exchange_3 rfl]
    show pwX so 232 23 [some (.ref xx), some (.int kq), some (.int pq), some (.ref oo), none] [] (thr g) w1 = _
    simp only [s_L_exchange_23, s_L_exchange_24, s_L_exchange_25, s_L_exchange_26]
    rfl
theorem hn_set_1 : pwHnd 233 5 0 = some (15, 4) := by decide +kernel
theorem l_set {kq : Int32} {pq : Int32} (hx : pwIsC w xx 6 = true) (h : pwX so 112 0 [some (.ref xx), some (.int kq), some (.int pq)] [] g w = some (oC (fun _ => 0) (cd, vq) g w1)) (hc : cd ≤ 1) (ho : w1 oo = .inl (1, 1, .inr (.inl fz))) : pwX so 233 0 [some (.ref xx), some (.int kq), some (.int pq), some (.ref oo), none] [] g w = some (lwR oo cd vq fz g w1) := by
  have hj := fun (x9 : Int64) => stJ (xq := x9) ho
  have hcc : cd = 0 ∨ cd = 1 := by omega
  rcases hcc with rfl | rfl
  · rw [oC_0] at h
    simp only [s_L_set_0, s_L_set_1, s_L_set_2, s_L_set_3, s_L_set_4, s_L_set_5, s_L_set_8, s_L_set_9, s_L_set_10, s_L_set_15, s_L_set_16, s_L_set_17, s_L_set_18, nL0, hx, cond_true, h, qAv, hj, Option.bind_some]
    rfl
  · have h : pwX so 112 0 [some (.ref xx), some (.int kq), some (.int pq)] [] g w = some (.inr 0, thr g, w1) := h
    simp only [s_L_set_0, s_L_set_1, s_L_set_2, s_L_set_3, s_L_set_4, s_L_set_5, nL0, hx, cond_true, h]
    rw [qAh hn_set_1 rfl]
    show pwX so 233 15 [some (.ref xx), some (.int kq), some (.int pq), some (.ref oo), none] [] (thr g) w1 = _
    simp only [s_L_set_15, s_L_set_16, s_L_set_17, s_L_set_18]
    rfl
theorem hn_ticks_1 : pwHnd 234 4 0 = some (13, 3) := by decide +kernel
theorem l_ticks {pq : Int32} (hx : pwIsC w xx 6 = true) (h : pwX so 113 0 [some (.ref xx), some (.int pq), none] [] g w = some (oC (fun _ => 0) (cd, vq) g w1)) (hc : cd ≤ 1) (ho : w1 oo = .inl (1, 1, .inr (.inl fz))) : pwX so 234 0 [some (.ref xx), some (.int pq), some (.ref oo), none] [] g w = some (lwR oo cd vq fz g w1) := by
  have hj := fun (x9 : Int64) => stJ (xq := x9) ho
  have hcc : cd = 0 ∨ cd = 1 := by omega
  rcases hcc with rfl | rfl
  · rw [oC_0] at h
    simp only [s_L_ticks_0, s_L_ticks_1, s_L_ticks_2, s_L_ticks_3, s_L_ticks_4, s_L_ticks_7, s_L_ticks_8, s_L_ticks_9, s_L_ticks_13, s_L_ticks_14, s_L_ticks_15, s_L_ticks_16, nL0, hx, cond_true, h, qAv, hj, Option.bind_some]
    rfl
  · have h : pwX so 113 0 [some (.ref xx), some (.int pq), none] [] g w = some (.inr 0, thr g, w1) := h
    simp only [s_L_ticks_0, s_L_ticks_1, s_L_ticks_2, s_L_ticks_3, s_L_ticks_4, nL0, hx, cond_true, h]
    rw [qAh hn_ticks_1 rfl]
    show pwX so 234 13 [some (.ref xx), some (.int pq), some (.ref oo), none] [] (thr g) w1 = _
    simp only [s_L_ticks_13, s_L_ticks_14, s_L_ticks_15, s_L_ticks_16]
    rfl
theorem hn_undo_1 : pwHnd 235 3 1 = some (12, 2) := by decide +kernel
theorem l_undo  (hx : pwIsC w xx 6 = true) (h : pwX so 114 0 [some (.ref xx)] [] g w = some (oC (fun _ => 1) (cd, vq) g w1)) (hc : cd ≤ 1) (ho : w1 oo = .inl (1, 1, .inr (.inl fz))) : pwX so 235 0 [some (.ref xx), some (.ref oo), none] [] g w = some (lwR oo cd vq fz g w1) := by
  have hj := fun (x9 : Int64) => stJ (xq := x9) ho
  have hcc : cd = 0 ∨ cd = 1 := by omega
  rcases hcc with rfl | rfl
  · rw [oC_0] at h
    simp only [s_L_undo_0, s_L_undo_1, s_L_undo_2, s_L_undo_3, s_L_undo_6, s_L_undo_7, s_L_undo_8, s_L_undo_12, s_L_undo_13, s_L_undo_14, s_L_undo_15, nL0, hx, cond_true, h, qAv, hj, Option.bind_some]
    rfl
  · have h : pwX so 114 0 [some (.ref xx)] [] g w = some (.inr 1, thr g, w1) := h
    simp only [s_L_undo_0, s_L_undo_1, s_L_undo_2, s_L_undo_3, nL0, hx, cond_true, h]
    rw [qAh hn_undo_1 rfl]
    show pwX so 235 12 [some (.ref xx), some (.ref oo), none] [] (thr g) w1 = _
    simp only [s_L_undo_12, s_L_undo_13, s_L_undo_14, s_L_undo_15]
    rfl
theorem hn_later_1 : pwHnd 236 5 0 = some (15, 4) := by decide +kernel
theorem l_later {pq : Int32} {kq : Int32} (hx : pwIsC w xx 6 = true) (h : pwX so 116 0 [some (.ref xx), some (.int pq), some (.int kq)] [] g w = some (oC (fun _ => 0) (cd, vq) g w1)) (hc : cd ≤ 1) (ho : w1 oo = .inl (1, 1, .inr (.inl fz))) : pwX so 236 0 [some (.ref xx), some (.int pq), some (.int kq), some (.ref oo), none] [] g w = some (lwR oo cd vq fz g w1) := by
  have hj := fun (x9 : Int64) => stJ (xq := x9) ho
  have hcc : cd = 0 ∨ cd = 1 := by omega
  rcases hcc with rfl | rfl
  · rw [oC_0] at h
    simp only [s_L_later_0, s_L_later_1, s_L_later_2, s_L_later_3, s_L_later_4, s_L_later_5, s_L_later_8, s_L_later_9, s_L_later_10, s_L_later_15, s_L_later_16, s_L_later_17, s_L_later_18, nL0, hx, cond_true, h, qAv, hj, Option.bind_some]
    rfl
  · have h : pwX so 116 0 [some (.ref xx), some (.int pq), some (.int kq)] [] g w = some (.inr 0, thr g, w1) := h
    simp only [s_L_later_0, s_L_later_1, s_L_later_2, s_L_later_3, s_L_later_4, s_L_later_5, nL0, hx, cond_true, h]
    rw [qAh hn_later_1 rfl]
    show pwX so 236 15 [some (.ref xx), some (.int pq), some (.int kq), some (.ref oo), none] [] (thr g) w1 = _
    simp only [s_L_later_15, s_L_later_16, s_L_later_17, s_L_later_18]
    rfl
theorem hn_bestShift_1 : pwHnd 237 4 2 = some (13, 3) := by decide +kernel
theorem l_bestShift {kq : Int32} (hx : pwIsC w xx 6 = true) (h : pwX so 118 0 [some (.ref xx), some (.int kq), none, none, none, none] [] g w = some (oC (fun _ => 2) (cd, vq) g w1)) (hc : cd ≤ 1) (ho : w1 oo = .inl (1, 1, .inr (.inl fz))) : pwX so 237 0 [some (.ref xx), some (.int kq), some (.ref oo), none] [] g w = some (lwR oo cd vq fz g w1) := by
  have hj := fun (x9 : Int64) => stJ (xq := x9) ho
  have hcc : cd = 0 ∨ cd = 1 := by omega
  rcases hcc with rfl | rfl
  · rw [oC_0] at h
    simp only [s_L_bestShift_0, s_L_bestShift_1, s_L_bestShift_2, s_L_bestShift_3, s_L_bestShift_4, s_L_bestShift_7, s_L_bestShift_8, s_L_bestShift_9, s_L_bestShift_13, s_L_bestShift_14, s_L_bestShift_15, s_L_bestShift_16, nL0, hx, cond_true, h, qAv, hj, Option.bind_some]
    rfl
  · have h : pwX so 118 0 [some (.ref xx), some (.int kq), none, none, none, none] [] g w = some (.inr 2, thr g, w1) := h
    simp only [s_L_bestShift_0, s_L_bestShift_1, s_L_bestShift_2, s_L_bestShift_3, s_L_bestShift_4, nL0, hx, cond_true, h]
    rw [qAh hn_bestShift_1 rfl]
    show pwX so 237 13 [some (.ref xx), some (.int kq), some (.ref oo), none] [] (thr g) w1 = _
    simp only [s_L_bestShift_13, s_L_bestShift_14, s_L_bestShift_15, s_L_bestShift_16]
    rfl
theorem hn_bestExchange_1 : pwHnd 238 4 0 = some (13, 3) := by decide +kernel
theorem l_bestExchange {pq : Int32} (hx : pwIsC w xx 6 = true) (h : pwX so 119 0 [some (.ref xx), some (.int pq), none, none, none, none, none, none] [] g w = some (oC (fun _ => 0) (cd, vq) g w1)) (hc : cd ≤ 1) (ho : w1 oo = .inl (1, 1, .inr (.inl fz))) : pwX so 238 0 [some (.ref xx), some (.int pq), some (.ref oo), none] [] g w = some (lwR oo cd vq fz g w1) := by
  have hj := fun (x9 : Int64) => stJ (xq := x9) ho
  have hcc : cd = 0 ∨ cd = 1 := by omega
  rcases hcc with rfl | rfl
  · rw [oC_0] at h
    simp only [s_L_bestExchange_0, s_L_bestExchange_1, s_L_bestExchange_2, s_L_bestExchange_3, s_L_bestExchange_4, s_L_bestExchange_7, s_L_bestExchange_8, s_L_bestExchange_9, s_L_bestExchange_13, s_L_bestExchange_14, s_L_bestExchange_15, s_L_bestExchange_16, nL0, hx, cond_true, h, qAv, hj, Option.bind_some]
    rfl
  · have h : pwX so 119 0 [some (.ref xx), some (.int pq), none, none, none, none, none, none] [] g w = some (.inr 0, thr g, w1) := h
    simp only [s_L_bestExchange_0, s_L_bestExchange_1, s_L_bestExchange_2, s_L_bestExchange_3, s_L_bestExchange_4, nL0, hx, cond_true, h]
    rw [qAh hn_bestExchange_1 rfl]
    show pwX so 238 13 [some (.ref xx), some (.int pq), some (.ref oo), none] [] (thr g) w1 = _
    simp only [s_L_bestExchange_13, s_L_bestExchange_14, s_L_bestExchange_15, s_L_bestExchange_16]
    rfl
theorem hn_runScript_1 : pwHnd 239 6 0 = some (16, 5) := by decide +kernel
theorem l_runScript {pq : Int32} {sz : Int64} (hx : pwIsC w xx 6 = true) (h : pwX so 121 0 [some (.ref xx), some (.int pq), some (.long sz), none, none, none] [] g w = some (oC (fun _ => 0) (cd, vq) g w1)) (hc : cd ≤ 1) (ho : w1 oo = .inl (1, 1, .inr (.inl fz))) : pwX so 239 0 [some (.ref xx), some (.int pq), some (.long sz), none, some (.ref oo), none] [] g w = some (lwR oo cd vq fz g w1) := by
  have hj := fun (x9 : Int64) => stJ (xq := x9) ho
  have hcc : cd = 0 ∨ cd = 1 := by omega
  rcases hcc with rfl | rfl
  · rw [oC_0] at h
    simp only [s_L_runScript_0, s_L_runScript_2, s_L_runScript_3, s_L_runScript_4, s_L_runScript_5, s_L_runScript_6, s_L_runScript_9, s_L_runScript_10, s_L_runScript_11, s_L_runScript_16, s_L_runScript_17, s_L_runScript_18, s_L_runScript_19, nL0, hx, cond_true, h, qAv, hj, Option.bind_some]
    rfl
  · have h : pwX so 121 0 [some (.ref xx), some (.int pq), some (.long sz), none, none, none] [] g w = some (.inr 0, thr g, w1) := h
    simp only [s_L_runScript_0, s_L_runScript_2, s_L_runScript_3, s_L_runScript_4, s_L_runScript_5, s_L_runScript_6, nL0, hx, cond_true, h]
    rw [qAh hn_runScript_1 rfl]
    show pwX so 239 16 [some (.ref xx), some (.int pq), some (.long sz), none, some (.ref oo), none] [] (thr g) w1 = _
    simp only [s_L_runScript_16, s_L_runScript_17, s_L_runScript_18, s_L_runScript_19]
    rfl
theorem hn_simulate_1 : pwHnd 240 6 0 = some (16, 5) := by decide +kernel
theorem l_simulate {sz : Int64} {pq : Int32} (hx : pwIsC w xx 6 = true) (h : pwX so 122 0 [some (.ref xx), some (.long sz), none, some (.int pq), none, none, none] [] g w = some (oC (fun _ => 0) (cd, vq) g w1)) (hc : cd ≤ 1) (ho : w1 oo = .inl (1, 1, .inr (.inl fz))) : pwX so 240 0 [some (.ref xx), some (.long sz), none, some (.int pq), some (.ref oo), none] [] g w = some (lwR oo cd vq fz g w1) := by
  have hj := fun (x9 : Int64) => stJ (xq := x9) ho
  have hcc : cd = 0 ∨ cd = 1 := by omega
  rcases hcc with rfl | rfl
  · rw [oC_0] at h
    simp only [s_L_simulate_0, s_L_simulate_2, s_L_simulate_3, s_L_simulate_4, s_L_simulate_5, s_L_simulate_6, s_L_simulate_9, s_L_simulate_10, s_L_simulate_11, s_L_simulate_16, s_L_simulate_17, s_L_simulate_18, s_L_simulate_19, nL0, hx, cond_true, h, qAv, hj, Option.bind_some]
    rfl
  · have h : pwX so 122 0 [some (.ref xx), some (.long sz), none, some (.int pq), none, none, none] [] g w = some (.inr 0, thr g, w1) := h
    simp only [s_L_simulate_0, s_L_simulate_2, s_L_simulate_3, s_L_simulate_4, s_L_simulate_5, s_L_simulate_6, nL0, hx, cond_true, h]
    rw [qAh hn_simulate_1 rfl]
    show pwX so 240 16 [some (.ref xx), some (.long sz), none, some (.int pq), some (.ref oo), none] [] (thr g) w1 = _
    simp only [s_L_simulate_16, s_L_simulate_17, s_L_simulate_18, s_L_simulate_19]
    rfl
theorem hn_save_1 : pwHnd 241 4 2 = some (13, 3) := by decide +kernel
theorem l_save {kq : Int32} (hx : pwIsC w xx 6 = true) (h : pwX so 124 0 [some (.ref xx), some (.int kq), none] [] g w = some (oC (fun _ => 2) (cd, vq) g w1)) (hc : cd ≤ 1) (ho : w1 oo = .inl (1, 1, .inr (.inl fz))) : pwX so 241 0 [some (.ref xx), some (.int kq), some (.ref oo), none] [] g w = some (lwR oo cd vq fz g w1) := by
  have hj := fun (x9 : Int64) => stJ (xq := x9) ho
  have hcc : cd = 0 ∨ cd = 1 := by omega
  rcases hcc with rfl | rfl
  · rw [oC_0] at h
    simp only [s_L_save_0, s_L_save_1, s_L_save_2, s_L_save_3, s_L_save_4, s_L_save_7, s_L_save_8, s_L_save_9, s_L_save_13, s_L_save_14, s_L_save_15, s_L_save_16, nL0, hx, cond_true, h, qAv, hj, Option.bind_some]
    rfl
  · have h : pwX so 124 0 [some (.ref xx), some (.int kq), none] [] g w = some (.inr 2, thr g, w1) := h
    simp only [s_L_save_0, s_L_save_1, s_L_save_2, s_L_save_3, s_L_save_4, nL0, hx, cond_true, h]
    rw [qAh hn_save_1 rfl]
    show pwX so 241 13 [some (.ref xx), some (.int kq), some (.ref oo), none] [] (thr g) w1 = _
    simp only [s_L_save_13, s_L_save_14, s_L_save_15, s_L_save_16]
    rfl
theorem hn_restore_1 : pwHnd 242 4 2 = some (13, 3) := by decide +kernel
theorem hn_restore_2 : pwHnd 242 4 1 = some (16, 3) := by decide +kernel
theorem l_restore {kq : Int32} (hx : pwIsC w xx 6 = true) (h : pwX so 125 0 [some (.ref xx), some (.int kq), none] [] g w = some (oC (fun jq => if jq = 1 then 2 else 1) (cd, vq) g w1)) (hc : cd ≤ 2) (ho : w1 oo = .inl (1, 1, .inr (.inl fz))) : pwX so 242 0 [some (.ref xx), some (.int kq), some (.ref oo), none] [] g w = some (lwR oo cd vq fz g w1) := by
  have hj := fun (x9 : Int64) => stJ (xq := x9) ho
  have hcc : cd = 0 ∨ cd = 1 ∨ cd = 2 := by omega
  rcases hcc with rfl | rfl | rfl
  · rw [oC_0] at h
    simp only [s_L_restore_0, s_L_restore_1, s_L_restore_2, s_L_restore_3, s_L_restore_4, s_L_restore_7, s_L_restore_8, s_L_restore_9, s_L_restore_13, s_L_restore_14, s_L_restore_16, s_L_restore_17, s_L_restore_18, s_L_restore_19, nL0, hx, cond_true, h, qAv, hj, Option.bind_some]
    rfl
  · have h : pwX so 125 0 [some (.ref xx), some (.int kq), none] [] g w = some (.inr 2, thr g, w1) := h
    simp only [s_L_restore_0, s_L_restore_1, s_L_restore_2, s_L_restore_3, s_L_restore_4, nL0, hx, cond_true, h]
    rw [qAh hn_restore_1 rfl]
    show pwX so 242 13 [some (.ref xx), some (.int kq), some (.ref oo), none] [] (thr g) w1 = _
    simp only [s_L_restore_13, s_L_restore_14, s_L_restore_16, s_L_restore_17, s_L_restore_18, s_L_restore_19]
    rfl
  · have h : pwX so 125 0 [some (.ref xx), some (.int kq), none] [] g w = some (.inr 1, thr g, w1) := h
    simp only [s_L_restore_0, s_L_restore_1, s_L_restore_2, s_L_restore_3, s_L_restore_4, nL0, hx, cond_true, h]
    rw [qAh hn_restore_2 rfl]
    show pwX so 242 16 [some (.ref xx), some (.int kq), some (.ref oo), none] [] (thr g) w1 = _
    simp only [s_L_restore_16, s_L_restore_17, s_L_restore_18, s_L_restore_19]
    rfl
theorem lw_go {xz : Option pwO} (h : xz = some (lwR oo cd vq fz g w1)) (ho : w1 oo = .inl (1, 1, .inr (.inl fz))) : ∃ (g2 : pwG) (w2 : pwW) (f2 : Nat → Int64), xz = some (.inl (some (.int (zN cd))), g2, w2) ∧ (g2.2.2.1 ≤ g.2.2.1 + 1 ∧ g2.2.2.2 ≤ g.2.2.2 + 6) ∧ (∀ aq, aq ≠ oo → w2 aq = w1 aq) ∧ w2 oo = .inl (1, 1, .inr (.inl f2)) ∧ (cd = 0 → f2 0 = vq.toInt64) := by
  by_cases h0 : cd = 0
  · subst h0
    refine ⟨g, va_up w1 oo (.inl (1, 1, .inr (.inl (vp_updL fz 0 vq.toInt64)))), vp_updL fz 0 vq.toInt64, h.trans rfl, ⟨Nat.le_succ _, Nat.le_add_right _ _⟩, fun aq ha => va_up_ne _ _ ha, va_up_self _ _ _, fun _ => rfl⟩
  · refine ⟨thr g, w1, fz, h.trans ?_, ⟨Nat.le_refl _, Nat.le_refl _⟩, fun aq _ => rfl, ho, fun hh => absurd hh h0⟩
    unfold lwR
    rw [if_neg h0]
end QA
