/-! the pure part: the law's wrappers: refused; answered with what is next; in() -/
section QA
variable {so : Nat → Nat} {g : pwG} {xx cq c2 : Nat} {w w1 : pwW} {vq v2 : Value} {Fq F1 F2 : FS} {aq bq nq : Nat}
theorem nL24 : (24 : Int32) = zN 24 := rfl
theorem nL36 : (36 : Int32) = zN 36 := rfl
theorem nL49 : (49 : Int32) = zN 49 := rfl
theorem nL50 : (50 : Int32) = zN 50 := rfl
theorem nL60 : (60 : Int32) = zN 60 := rfl
theorem nL87 : (87 : Int32) = zN 87 := rfl
theorem nL90 : (90 : Int32) = zN 90 := rfl
theorem nL200 : (200 : Int32) = zN 200 := rfl
theorem nL501 : (501 : Int32) = zN 501 := rfl
theorem l_zN (h : nq < 2147483648) : (zN nq).toInt64 = zL nq := Int32.toInt64_ofNat' (by show (nq : Int) ≤ 2147483647; omega)
theorem zL_add : zL aq + zL bq = zL (aq + bq) := (Int64.ofNat_add aq bq).symm
theorem z_in {a9 b9 c9 : Int64} (h1 : b9.toInt ≤ a9.toInt) (h2 : a9.toInt ≤ c9.toInt) : pwX so 131 0 [some (.long a9), none, some (.long b9), none, some (.long c9), none] [] g w = some (.inl (some (.int (zN 1))), g, w) := by
  have nL0 : (0 : Int32) = zN 0 := rfl
  have nL1 : (1 : Int32) = zN 1 := rfl
  simp only [s_L_in_0, s_L_in_1, s_L_in_2, s_L_in_3, s_L_in_6, s_L_in_7, s_L_in_9, s_L_in_10, s_L_in_13, s_L_in_14, s_L_in_17, s_L_in_18, nL0, nL1, lcL0, lcG0]
  rw [if_neg (by omega), if_neg (by omega)]
  rfl
theorem e1_append {kq : Int32} (hr : (fApp Fq kq) = ((1, 0), Fq)) (hC : clsW xx Fq w) : lzE xx g w Fq 1 (.long (-9000000000000000002)) (pwX so 132 0 [some (.ref xx), some (.int kq), none] [] g w) := by
  have h := th_append (so := so) (g := g) (kq := kq) (kz := 0) (vz := 0) (by rw [hr]) hC
  rw [hr] at h
  exact h
theorem e2_append {kq : Int32} (hr : (fApp Fq kq) = ((2, 0), Fq)) (hC : clsW xx Fq w) : lzE xx g w Fq 1 (.long (-9000000000000000003)) (pwX so 132 0 [some (.ref xx), some (.int kq), none] [] g w) := by
  have h := th_append (so := so) (g := g) (kq := kq) (kz := 1) (vz := 0) (by rw [hr]) hC
  rw [hr] at h
  exact h
theorem n_append {kq : Int32} {vz : Int32} (hr : (fApp Fq kq) = ((0, vz), F2)) (hC : clsW xx Fq w) : lzE xx g w F2 0 (.long vz.toInt64) (pwX so 132 0 [some (.ref xx), some (.int kq), none] [] g w) := by
  have h := v_append (so := so) (g := g) (kq := kq) (vz := vz) (by rw [hr]) hC
  rw [hr] at h
  exact h
theorem e1_load  (hs : soW so xx w) (hr : (fLoad Fq) = ((1, 0), Fq)) (hC : clsW xx Fq w) : lzE xx g w Fq 1 (.long (-9000000000000000003)) (pwX so 133 0 [some (.ref xx), none] [] g w) := by
  have h := th_load (so := so) (g := g)  (kz := 0) (vz := 0) hs (by rw [hr]) hC
  rw [hr] at h
  exact h
theorem n_load  (hs : soW so xx w) {vz : Int32} (hr : (fLoad Fq) = ((0, vz), F2)) (hC : clsW xx Fq w) : lzE xx g w F2 0 (.long vz.toInt64) (pwX so 133 0 [some (.ref xx), none] [] g w) := by
  have h := v_load (so := so) (g := g)  (vz := vz) hs (by rw [hr]) hC
  rw [hr] at h
  exact h
theorem e1_about {pq : Int32} (hr : (fAbout Fq pq) = (1, 0)) (hC : clsW xx Fq w) : lzE xx g w Fq 1 (.long (-9000000000000000002)) (pwX so 134 0 [some (.ref xx), some (.int pq), none] [] g w) := by
  have h := th_about (so := so) (g := g) (pq := pq) (kz := 0) (vz := 0) (by rw [hr]) hC
  exact h
theorem e1_walkerOf {kq : Int32} {pq : Int32} (hr : (fWalkerOf Fq kq pq) = (1, 0)) (hC : clsW xx Fq w) : lzE xx g w Fq 1 (.long (-9000000000000000001)) (pwX so 135 0 [some (.ref xx), some (.int kq), some (.int pq), none] [] g w) := by
  have h := th_walkerOf (so := so) (g := g) (kq := kq) (pq := pq) (kz := 0) (vz := 0) (by rw [hr]) hC
  exact h
theorem e2_walkerOf {kq : Int32} {pq : Int32} (hr : (fWalkerOf Fq kq pq) = (2, 0)) (hC : clsW xx Fq w) : lzE xx g w Fq 1 (.long (-9000000000000000002)) (pwX so 135 0 [some (.ref xx), some (.int kq), some (.int pq), none] [] g w) := by
  have h := th_walkerOf (so := so) (g := g) (kq := kq) (pq := pq) (kz := 1) (vz := 0) (by rw [hr]) hC
  exact h
theorem e1_streetOf {kq : Int32} {pq : Int32} (hr : (fStreetOf Fq kq pq) = (1, 0)) (hC : clsW xx Fq w) : lzE xx g w Fq 1 (.long (-9000000000000000001)) (pwX so 136 0 [some (.ref xx), some (.int kq), some (.int pq), none] [] g w) := by
  have h := th_streetOf (so := so) (g := g) (kq := kq) (pq := pq) (kz := 0) (vz := 0) (by rw [hr]) hC
  exact h
theorem e2_streetOf {kq : Int32} {pq : Int32} (hr : (fStreetOf Fq kq pq) = (2, 0)) (hC : clsW xx Fq w) : lzE xx g w Fq 1 (.long (-9000000000000000002)) (pwX so 136 0 [some (.ref xx), some (.int kq), some (.int pq), none] [] g w) := by
  have h := th_streetOf (so := so) (g := g) (kq := kq) (pq := pq) (kz := 1) (vz := 0) (by rw [hr]) hC
  exact h
theorem e1_cell {kq : Int32} {pq : Int32} (hr : (fCell Fq kq pq) = (1, 0)) (hC : clsW xx Fq w) : lzE xx g w Fq 1 (.long (-9000000000000000001)) (pwX so 137 0 [some (.ref xx), some (.int kq), some (.int pq), none] [] g w) := by
  have h := th_cell (so := so) (g := g) (kq := kq) (pq := pq) (kz := 0) (vz := 0) (by rw [hr]) hC
  exact h
theorem e1_file {kq : Int32} (hr : (fFile Fq kq) = (1, 0)) (hC : clsW xx Fq w) : lzE xx g w Fq 1 (.long (-9000000000000000001)) (pwX so 138 0 [some (.ref xx), some (.int kq), none] [] g w) := by
  have h := th_file (so := so) (g := g) (kq := kq) (kz := 0) (vz := 0) (by rw [hr]) hC
  exact h
theorem e1_read {kq : Int32} {pq : Int32} (hr : (fRead Fq kq pq) = (1, 0)) (hC : clsW xx Fq w) : lzE xx g w Fq 1 (.long (-9000000000000000001)) (pwX so 139 0 [some (.ref xx), some (.int kq), some (.int pq), none] [] g w) := by
  have h := th_read (so := so) (g := g) (kq := kq) (pq := pq) (kz := 0) (vz := 0) (by rw [hr]) hC
  exact h
theorem e2_read {kq : Int32} {pq : Int32} (hr : (fRead Fq kq pq) = (2, 0)) (hC : clsW xx Fq w) : lzE xx g w Fq 1 (.long (-9000000000000000002)) (pwX so 139 0 [some (.ref xx), some (.int kq), some (.int pq), none] [] g w) := by
  have h := th_read (so := so) (g := g) (kq := kq) (pq := pq) (kz := 1) (vz := 0) (by rw [hr]) hC
  exact h
theorem e1_walker {pq : Int32} (hr : (fWalker Fq pq) = ((1, 0), Fq)) (hC : clsW xx Fq w) : lzE xx g w Fq 1 (.long (-9000000000000000002)) (pwX so 140 0 [some (.ref xx), some (.int pq), none] [] g w) := by
  have h := th_walker (so := so) (g := g) (pq := pq) (kz := 0) (vz := 0) (by rw [hr]) hC
  rw [hr] at h
  exact h
theorem e2_walker {pq : Int32} (hr : (fWalker Fq pq) = ((2, 0), Fq)) (hC : clsW xx Fq w) : lzE xx g w Fq 1 (.long (-9000000000000000003)) (pwX so 140 0 [some (.ref xx), some (.int pq), none] [] g w) := by
  have h := th_walker (so := so) (g := g) (pq := pq) (kz := 1) (vz := 0) (by rw [hr]) hC
  rw [hr] at h
  exact h
theorem n_walker {pq : Int32} {vz : Int32} (hr : (fWalker Fq pq) = ((0, vz), F2)) (hC : clsW xx Fq w) : lzE xx g w F2 0 (.long vz.toInt64) (pwX so 140 0 [some (.ref xx), some (.int pq), none] [] g w) := by
  have h := v_walker (so := so) (g := g) (pq := pq) (vz := vz) (by rw [hr]) hC
  rw [hr] at h
  exact h
theorem e1_street {pq : Int32} {rq : Int32} {tq : Int32} {uq : Int32} (hr : (fStreet Fq pq rq tq uq) = ((1, 0), Fq)) (hC : clsW xx Fq w) : lzE xx g w Fq 1 (.long (-9000000000000000002)) (pwX so 141 0 [some (.ref xx), some (.int pq), some (.int rq), some (.int tq), some (.int uq), none] [] g w) := by
  have h := th_street (so := so) (g := g) (pq := pq) (rq := rq) (tq := tq) (uq := uq) (kz := 0) (vz := 0) (by rw [hr]) hC
  rw [hr] at h
  exact h
theorem e2_street {pq : Int32} {rq : Int32} {tq : Int32} {uq : Int32} (hr : (fStreet Fq pq rq tq uq) = ((2, 0), Fq)) (hC : clsW xx Fq w) : lzE xx g w Fq 1 (.long (-9000000000000000003)) (pwX so 141 0 [some (.ref xx), some (.int pq), some (.int rq), some (.int tq), some (.int uq), none] [] g w) := by
  have h := th_street (so := so) (g := g) (pq := pq) (rq := rq) (tq := tq) (uq := uq) (kz := 1) (vz := 0) (by rw [hr]) hC
  rw [hr] at h
  exact h
theorem n_street {pq : Int32} {rq : Int32} {tq : Int32} {uq : Int32} {vz : Int32} (hr : (fStreet Fq pq rq tq uq) = ((0, vz), F2)) (hC : clsW xx Fq w) : lzE xx g w F2 0 (.long vz.toInt64) (pwX so 141 0 [some (.ref xx), some (.int pq), some (.int rq), some (.int tq), some (.int uq), none] [] g w) := by
  have h := v_street (so := so) (g := g) (pq := pq) (rq := rq) (tq := tq) (uq := uq) (vz := vz) (by rw [hr]) hC
  rw [hr] at h
  exact h
theorem e1_shift {kq : Int32} {pq : Int32} (hr : (fShift Fq kq pq) = ((1, 0), Fq)) (hC : clsW xx Fq w) : lzE xx g w Fq 1 (.long (-9000000000000000001)) (pwX so 142 0 [some (.ref xx), some (.int kq), some (.int pq), none] [] g w) := by
  have h := th_shift (so := so) (g := g) (kq := kq) (pq := pq) (kz := 0) (vz := 0) (by rw [hr]) hC
  rw [hr] at h
  exact h
theorem e2_shift {kq : Int32} {pq : Int32} (hr : (fShift Fq kq pq) = ((2, 0), Fq)) (hC : clsW xx Fq w) : lzE xx g w Fq 1 (.long (-9000000000000000002)) (pwX so 142 0 [some (.ref xx), some (.int kq), some (.int pq), none] [] g w) := by
  have h := th_shift (so := so) (g := g) (kq := kq) (pq := pq) (kz := 1) (vz := 0) (by rw [hr]) hC
  rw [hr] at h
  exact h
theorem n_shift {kq : Int32} {pq : Int32} {vz : Int32} (hr : (fShift Fq kq pq) = ((0, vz), F2)) (hC : clsW xx Fq w) : lzE xx g w F2 0 (.long vz.toInt64) (pwX so 142 0 [some (.ref xx), some (.int kq), some (.int pq), none] [] g w) := by
  have h := v_shift (so := so) (g := g) (kq := kq) (pq := pq) (vz := vz) (by rw [hr]) hC
  rw [hr] at h
  exact h
theorem e1_letter {kq : Int32} {pq : Int32} (hr : (fLetter Fq kq pq) = ((1, 0), Fq)) (hC : clsW xx Fq w) : lzE xx g w Fq 1 (.long (-9000000000000000001)) (pwX so 143 0 [some (.ref xx), some (.int kq), some (.int pq), none] [] g w) := by
  have h := th_letter (so := so) (g := g) (kq := kq) (pq := pq) (kz := 0) (vz := 0) (by rw [hr]) hC
  rw [hr] at h
  exact h
theorem e2_letter {kq : Int32} {pq : Int32} (hr : (fLetter Fq kq pq) = ((2, 0), Fq)) (hC : clsW xx Fq w) : lzE xx g w Fq 1 (.long (-9000000000000000002)) (pwX so 143 0 [some (.ref xx), some (.int kq), some (.int pq), none] [] g w) := by
  have h := th_letter (so := so) (g := g) (kq := kq) (pq := pq) (kz := 1) (vz := 0) (by rw [hr]) hC
  rw [hr] at h
  exact h
theorem n_letter {kq : Int32} {pq : Int32} {vz : Int32} (hr : (fLetter Fq kq pq) = ((0, vz), F2)) (hC : clsW xx Fq w) : lzE xx g w F2 0 (.long vz.toInt64) (pwX so 143 0 [some (.ref xx), some (.int kq), some (.int pq), none] [] g w) := by
  have h := v_letter (so := so) (g := g) (kq := kq) (pq := pq) (vz := vz) (by rw [hr]) hC
  rw [hr] at h
  exact h
theorem e1_exchange {kq : Int32} {pq : Int32} (hr : (fExch Fq kq pq) = ((1, 0), Fq)) (hC : clsW xx Fq w) : lzE xx g w Fq 1 (.long (-9000000000000000001)) (pwX so 144 0 [some (.ref xx), some (.int kq), some (.int pq), none] [] g w) := by
  have h := th_exchange (so := so) (g := g) (kq := kq) (pq := pq) (kz := 0) (vz := 0) (by rw [hr]) hC
  rw [hr] at h
  exact h
theorem e2_exchange {kq : Int32} {pq : Int32} (hr : (fExch Fq kq pq) = ((2, 0), Fq)) (hC : clsW xx Fq w) : lzE xx g w Fq 1 (.long (-9000000000000000002)) (pwX so 144 0 [some (.ref xx), some (.int kq), some (.int pq), none] [] g w) := by
  have h := th_exchange (so := so) (g := g) (kq := kq) (pq := pq) (kz := 1) (vz := 0) (by rw [hr]) hC
  rw [hr] at h
  exact h
theorem e3_exchange {kq : Int32} {pq : Int32} (hr : (fExch Fq kq pq) = ((3, 0), Fq)) (hC : clsW xx Fq w) : lzE xx g w Fq 1 (.long (-9000000000000000003)) (pwX so 144 0 [some (.ref xx), some (.int kq), some (.int pq), none] [] g w) := by
  have h := th_exchange (so := so) (g := g) (kq := kq) (pq := pq) (kz := 2) (vz := 0) (by rw [hr]) hC
  rw [hr] at h
  exact h
theorem n_exchange {kq : Int32} {pq : Int32} {vz : Int32} (hr : (fExch Fq kq pq) = ((0, vz), F2)) (hC : clsW xx Fq w) : lzE xx g w F2 0 (.long vz.toInt64) (pwX so 144 0 [some (.ref xx), some (.int kq), some (.int pq), none] [] g w) := by
  have h := v_exchange (so := so) (g := g) (kq := kq) (pq := pq) (vz := vz) (by rw [hr]) hC
  rw [hr] at h
  exact h
theorem e1_set {kq : Int32} {pq : Int32} (hr : (fSet Fq kq pq) = ((1, 0), Fq)) (hC : clsW xx Fq w) : lzE xx g w Fq 1 (.long (-9000000000000000002)) (pwX so 145 0 [some (.ref xx), some (.int kq), some (.int pq), none] [] g w) := by
  have h := th_set (so := so) (g := g) (kq := kq) (pq := pq) (kz := 0) (vz := 0) (by rw [hr]) hC
  rw [hr] at h
  exact h
theorem n_set {kq : Int32} {pq : Int32} {vz : Int32} (hr : (fSet Fq kq pq) = ((0, vz), F2)) (hC : clsW xx Fq w) : lzE xx g w F2 0 (.long vz.toInt64) (pwX so 145 0 [some (.ref xx), some (.int kq), some (.int pq), none] [] g w) := by
  have h := v_set (so := so) (g := g) (kq := kq) (pq := pq) (vz := vz) (by rw [hr]) hC
  rw [hr] at h
  exact h
theorem e1_ticks {pq : Int32} (hr : (fTicks Fq pq) = ((1, 0), Fq)) (hC : clsW xx Fq w) : lzE xx g w Fq 1 (.long (-9000000000000000002)) (pwX so 146 0 [some (.ref xx), some (.int pq), none] [] g w) := by
  have h := th_ticks (so := so) (g := g) (pq := pq) (kz := 0) (vz := 0) (by rw [hr]) hC
  rw [hr] at h
  exact h
theorem n_ticks {pq : Int32} {vz : Int32} (hr : (fTicks Fq pq) = ((0, vz), F2)) (hC : clsW xx Fq w) : lzE xx g w F2 0 (.long vz.toInt64) (pwX so 146 0 [some (.ref xx), some (.int pq), none] [] g w) := by
  have h := v_ticks (so := so) (g := g) (pq := pq) (vz := vz) (by rw [hr]) hC
  rw [hr] at h
  exact h
theorem e1_undo  (hr : (fUndo Fq) = ((1, 0), Fq)) (hC : clsW xx Fq w) : lzE xx g w Fq 1 (.long (-9000000000000000003)) (pwX so 147 0 [some (.ref xx), none] [] g w) := by
  have h := th_undo (so := so) (g := g)  (kz := 0) (vz := 0) (by rw [hr]) hC
  rw [hr] at h
  exact h
theorem n_undo  {vz : Int32} (hr : (fUndo Fq) = ((0, vz), F2)) (hC : clsW xx Fq w) : lzE xx g w F2 0 (.long vz.toInt64) (pwX so 147 0 [some (.ref xx), none] [] g w) := by
  have h := v_undo (so := so) (g := g)  (vz := vz) (by rw [hr]) hC
  rw [hr] at h
  exact h
theorem e1_later {pq : Int32} {kq : Int32} (hr : (fLater Fq pq kq) = (1, 0)) (hC : clsW xx Fq w) : lzE xx g w Fq 1 (.long (-9000000000000000002)) (pwX so 148 0 [some (.ref xx), some (.int pq), some (.int kq), none] [] g w) := by
  have h := th_later (so := so) (g := g) (pq := pq) (kq := kq) (kz := 0) (vz := 0) (by rw [hr]) hC
  exact h
theorem e1_bestShift {kq : Int32} (hr : (fBShift Fq kq) = (1, 0)) (hC : clsW xx Fq w) : lzE xx g w Fq 1 (.long (-9000000000000000001)) (pwX so 149 0 [some (.ref xx), some (.int kq), none] [] g w) := by
  have h := th_bestShift (so := so) (g := g) (kq := kq) (kz := 0) (vz := 0) (by rw [hr]) hC
  exact h
theorem e1_bestExchange {pq : Int32} (hr : (fBest Fq pq) = (1, 0)) (hC : clsW xx Fq w) : lzE xx g w Fq 1 (.long (-9000000000000000002)) (pwX so 150 0 [some (.ref xx), some (.int pq), none] [] g w) := by
  have h := th_bestExchange (so := so) (g := g) (pq := pq) (kz := 0) (vz := 0) (by rw [hr]) hC
  exact h
theorem e1_script {pq : Int32} {sz : Int64} (hr : (fScr Fq pq sz) = (1, 0)) (hC : clsW xx Fq w) : lzE xx g w Fq 1 (.long (-9000000000000000002)) (pwX so 151 0 [some (.ref xx), some (.int pq), some (.long sz), none, none] [] g w) := by
  have h := th_script (so := so) (g := g) (pq := pq) (sz := sz) (kz := 0) (vz := 0) (by rw [hr]) hC
  exact h
theorem e1_simulate {sz : Int64} {pq : Int32} (hr : (fSim Fq sz pq) = (1, 0)) (hC : clsW xx Fq w) : lzE xx g w Fq 1 (.long (-9000000000000000002)) (pwX so 152 0 [some (.ref xx), some (.long sz), none, some (.int pq), none] [] g w) := by
  have h := th_simulate (so := so) (g := g) (sz := sz) (pq := pq) (kz := 0) (vz := 0) (by rw [hr]) hC
  exact h
theorem e1_save {kq : Int32} (hr : (fSave Fq kq) = ((1, 0), Fq)) (hC : clsW xx Fq w) : lzE xx g w Fq 1 (.long (-9000000000000000001)) (pwX so 153 0 [some (.ref xx), some (.int kq), none] [] g w) := by
  have h := th_save (so := so) (g := g) (kq := kq) (kz := 0) (vz := 0) (by rw [hr]) hC
  rw [hr] at h
  exact h
theorem n_save {kq : Int32} {vz : Int32} (hr : (fSave Fq kq) = ((0, vz), F2)) (hC : clsW xx Fq w) : lzE xx g w F2 0 (.long vz.toInt64) (pwX so 153 0 [some (.ref xx), some (.int kq), none] [] g w) := by
  have h := v_save (so := so) (g := g) (kq := kq) (vz := vz) (by rw [hr]) hC
  rw [hr] at h
  exact h
theorem e1_restore {kq : Int32} (hr : (fRest Fq kq) = ((1, 0), Fq)) (hC : clsW xx Fq w) : lzE xx g w Fq 1 (.long (-9000000000000000001)) (pwX so 154 0 [some (.ref xx), some (.int kq), none] [] g w) := by
  have h := th_restore (so := so) (g := g) (kq := kq) (kz := 0) (vz := 0) (by rw [hr]) hC
  rw [hr] at h
  exact h
theorem e2_restore {kq : Int32} (hr : (fRest Fq kq) = ((2, 0), Fq)) (hC : clsW xx Fq w) : lzE xx g w Fq 1 (.long (-9000000000000000003)) (pwX so 154 0 [some (.ref xx), some (.int kq), none] [] g w) := by
  have h := th_restore (so := so) (g := g) (kq := kq) (kz := 1) (vz := 0) (by rw [hr]) hC
  rw [hr] at h
  exact h
theorem n_restore {kq : Int32} {vz : Int32} (hr : (fRest Fq kq) = ((0, vz), F2)) (hC : clsW xx Fq w) : lzE xx g w F2 0 (.long vz.toInt64) (pwX so 154 0 [some (.ref xx), some (.int kq), none] [] g w) := by
  have h := v_restore (so := so) (g := g) (kq := kq) (vz := vz) (by rw [hr]) hC
  rw [hr] at h
  exact h
end QA
