/-! the pure part: a told text is a walk -/
/-- these signs are whole commands -/
def walk (cs : List Nat) : Prop := ∀ (rest : List Nat) (iq : Nat) (f9 : Nat → Int32) (c9 n9 : Nat) (t9 : Option Nat), ∃ (f8 : Nat → Int32) (c8 n8 : Nat) (t8 : Option Nat), feG (cs ++ rest) iq (c9, n9, t9, true, f9) = feG rest (iq + cs.length) (c8, n8, t8, true, f8)
theorem feG_s {cq iq : Nat} {cs : List Nat} {s1 s2 : RS} (h : pSt s1 cq = (true, s2)) : feG (cq :: cs) iq s1 = feG cs (iq + 1) s2 := by
  show (if (pSt s1 cq).1 = true then feG cs (iq + 1) (pSt s1 cq).2 else zN iq) = _
  rw [h]; rfl
theorem walk_0 : walk [] := fun rest iq f9 c9 n9 t9 => ⟨f9, c9, n9, t9, rfl⟩
theorem walk_a {as bs : List Nat} (h1 : walk as) (h2 : walk bs) : walk (as ++ bs) := by
  intro rest iq f9 c9 n9 t9
  obtain ⟨f8, c8, n8, t8, e1⟩ := h1 (bs ++ rest) iq f9 c9 n9 t9
  obtain ⟨f7, c7, n7, t7, e2⟩ := h2 rest (iq + as.length) f8 c8 n8 t8
  exact ⟨f7, c7, n7, t7, by rw [List.append_assoc, e1, e2, List.length_append, Nat.add_assoc]⟩
theorem walk_err {cs : List Nat} (h : walk cs) : fErr (87 :: cs) = zM := by
  obtain ⟨f8, c8, n8, t8, e1⟩ := h [] 1 (fun _ => 0) 0 0 none
  rw [List.append_nil] at e1
  show (if (87 : Nat) = 87 then feG cs 1 sR0 else zN 0) = zM
  rw [if_pos rfl]
  show feG cs 1 (0, 0, none, true, fun _ => 0) = zM
  rw [e1]; rfl
theorem wk_w {aq : Nat} (h : aq < 26) : walk [119, 65 + aq] := by
  intro rest iq f9 c9 n9 t9
  refine ⟨upd f9 0 (zN aq), 119, 1, none, ?_⟩
  show feG (119 :: (65 + aq) :: rest) iq _ = _
  rw [feG_s (s2 := (119, 0, none, false, f9)) rfl]
  have h9 : ∀ f9 : Nat → Int32, pSt (119, 0, none, false, f9) (65 + aq) = (true, (119, 1, none, true, upd f9 0 (zN aq))) := by
    have : aq = 0 ∨ aq = 1 ∨ aq = 2 ∨ aq = 3 ∨ aq = 4 ∨ aq = 5 ∨ aq = 6 ∨ aq = 7 ∨ aq = 8 ∨ aq = 9 ∨ aq = 10 ∨ aq = 11 ∨ aq = 12 ∨ aq = 13 ∨ aq = 14 ∨ aq = 15 ∨ aq = 16 ∨ aq = 17 ∨ aq = 18 ∨ aq = 19 ∨ aq = 20 ∨ aq = 21 ∨ aq = 22 ∨ aq = 23 ∨ aq = 24 ∨ aq = 25 := by omega
    rcases this with rfl | rfl | rfl | rfl | rfl | rfl | rfl | rfl | rfl | rfl | rfl | rfl | rfl | rfl | rfl | rfl | rfl | rfl | rfl | rfl | rfl | rfl | rfl | rfl | rfl | rfl <;> intro f9 <;> rfl
  rw [feG_s (h9 f9)]
  rfl
theorem c10 {aq : Nat} (h : aq < 10) : aq = 0 ∨ aq = 1 ∨ aq = 2 ∨ aq = 3 ∨ aq = 4 ∨ aq = 5 ∨ aq = 6 ∨ aq = 7 ∨ aq = 8 ∨ aq = 9 := by omega
theorem ps_s1 {aq : Nat} (h : aq < 8) (f9 : Nat → Int32) : pSt (115, 0, some 0, false, f9) (50 + aq) = (true, (115, 1, none, false, upd f9 0 (zN (2 + aq)))) := by
  rcases c10 (show aq < 10 by omega) with rfl | rfl | rfl | rfl | rfl | rfl | rfl | rfl | rfl | rfl <;> first | rfl | omega
theorem ps_s2 {aq : Nat} (h : aq < 9) (f9 : Nat → Int32) : pSt (115, 1, some 0, false, f9) (49 + aq) = (true, (115, 2, none, false, upd f9 1 (zN (1 + aq)))) := by
  rcases c10 (show aq < 10 by omega) with rfl | rfl | rfl | rfl | rfl | rfl | rfl | rfl | rfl | rfl <;> first | rfl | omega
theorem ps_s3 {aq : Nat} (h : aq < 10) (f9 : Nat → Int32) : pSt (115, 2, some 0, false, f9) (48 + aq) = (true, (115, 3, none, false, upd f9 2 (zN aq))) := by
  rcases c10 h with rfl | rfl | rfl | rfl | rfl | rfl | rfl | rfl | rfl | rfl <;> rfl
theorem ps_s4 {aq : Nat} (h : aq < 6) (f9 : Nat → Int32) : pSt (115, 3, none, false, f9) (49 + aq) = (true, (115, 4, none, true, upd f9 3 (zN (1 + aq)))) := by
  rcases c10 (show aq < 10 by omega) with rfl | rfl | rfl | rfl | rfl | rfl | rfl | rfl | rfl | rfl <;> first | rfl | omega
theorem wk_s {aq bq cq dq : Nat} (h1 : aq < 8) (h2 : bq < 9) (h3 : cq < 10) (h4 : dq < 6) : walk [115, 48, 50 + aq, 48, 49 + bq, 48, 48 + cq, 49 + dq] := by
  intro rest iq f9 c9 n9 t9
  refine ⟨upd (upd (upd (upd f9 0 (zN (2 + aq))) 1 (zN (1 + bq))) 2 (zN cq)) 3 (zN (1 + dq)), 115, 4, none, ?_⟩
  show feG (115 :: 48 :: (50 + aq) :: 48 :: (49 + bq) :: 48 :: (48 + cq) :: (49 + dq) :: rest) iq _ = _
  rw [feG_s (s2 := (115, 0, none, false, f9)) rfl, feG_s (s2 := (115, 0, some 0, false, f9)) rfl, feG_s (ps_s1 h1 _), feG_s (s2 := (115, 1, some 0, false, upd f9 0 (zN (2 + aq)))) rfl, feG_s (ps_s2 h2 _), feG_s (s2 := (115, 2, some 0, false, upd (upd f9 0 (zN (2 + aq))) 1 (zN (1 + bq)))) rfl, feG_s (ps_s3 h3 _), feG_s (ps_s4 h4 _)]
  rfl
theorem ps_t {aq : Nat} (h : aq < 9) (f9 : Nat → Int32) : pSt (116, 0, some 0, false, f9) (49 + aq) = (true, (116, 1, none, true, upd f9 0 (zN (1 + aq)))) := by
  rcases c10 (show aq < 10 by omega) with rfl | rfl | rfl | rfl | rfl | rfl | rfl | rfl | rfl | rfl <;> first | rfl | omega
theorem wk_t {aq : Nat} (h : aq < 9) : walk [116, 48, 49 + aq] := by
  intro rest iq f9 c9 n9 t9
  refine ⟨upd f9 0 (zN (1 + aq)), 116, 1, none, ?_⟩
  show feG (116 :: 48 :: (49 + aq) :: rest) iq _ = _
  rw [feG_s (s2 := (116, 0, none, false, f9)) rfl, feG_s (s2 := (116, 0, some 0, false, f9)) rfl, feG_s (ps_t h _)]
  rfl
theorem ps_x1 {aq : Nat} (h : aq < 10) (f9 : Nat → Int32) : pSt (120, 0, none, false, f9) (48 + aq) = (true, (120, 1, none, false, upd f9 0 (zN aq))) := by
  rcases c10 h with rfl | rfl | rfl | rfl | rfl | rfl | rfl | rfl | rfl | rfl <;> rfl
theorem ps_x2 {aq : Nat} (h : aq < 10) (f9 : Nat → Int32) : pSt (120, 1, none, false, f9) (48 + aq) = (true, (120, 2, none, true, upd f9 1 (zN aq))) := by
  rcases c10 h with rfl | rfl | rfl | rfl | rfl | rfl | rfl | rfl | rfl | rfl <;> rfl
theorem wk_x {aq bq : Nat} (h1 : aq < 10) (h2 : bq < 10) : walk [120, 48 + aq, 48 + bq] := by
  intro rest iq f9 c9 n9 t9
  refine ⟨upd (upd f9 0 (zN aq)) 1 (zN bq), 120, 2, none, ?_⟩
  show feG (120 :: (48 + aq) :: (48 + bq) :: rest) iq _ = _
  rw [feG_s (s2 := (120, 0, none, false, f9)) rfl, feG_s (ps_x1 h1 _), feG_s (ps_x2 h2 _)]
  rfl
theorem ps_r {aq : Nat} (h : aq < 4) (f9 : Nat → Int32) : pSt (114, 0, none, false, f9) (48 + aq) = (true, (114, 1, none, true, upd f9 0 (zN aq))) := by
  rcases c10 (show aq < 10 by omega) with rfl | rfl | rfl | rfl | rfl | rfl | rfl | rfl | rfl | rfl <;> first | rfl | omega
theorem wk_r {aq : Nat} (h : aq < 4) : walk [114, 48 + aq] := by
  intro rest iq f9 c9 n9 t9
  refine ⟨upd f9 0 (zN aq), 114, 1, none, ?_⟩
  show feG (114 :: (48 + aq) :: rest) iq _ = _
  rw [feG_s (s2 := (114, 0, none, false, f9)) rfl, feG_s (ps_r h _)]
  rfl
theorem ps_m {aq : Nat} (h : aq < 2) (f9 : Nat → Int32) : pSt (109, 0, none, false, f9) (48 + aq) = (true, (109, 1, none, true, upd f9 0 (zN aq))) := by
  rcases c10 (show aq < 10 by omega) with rfl | rfl | rfl | rfl | rfl | rfl | rfl | rfl | rfl | rfl <;> first | rfl | omega
theorem wk_m {aq : Nat} (h : aq < 2) : walk [109, 48 + aq] := by
  intro rest iq f9 c9 n9 t9
  refine ⟨upd f9 0 (zN aq), 109, 1, none, ?_⟩
  show feG (109 :: (48 + aq) :: rest) iq _ = _
  rw [feG_s (s2 := (109, 0, none, false, f9)) rfl, feG_s (ps_m h _)]
  rfl
/-- the signs of one turn of told(), by y -/
def blk (yq : Nat) : List Nat := [119, 65 + yq % 26, 119, 90 - yq % 25] ++ ([115, 48, 50 + yq % 8, 48] ++ ([49 + yq % 9, 48, 48 + yq % 10, 49 + yq % 6] ++ ([116, 48, 49 + yq % 9, 120] ++ [48 + yq % 10, 48 + yq / 10 % 10, 114, 48 + yq % 4])))
def fin9 (xq : Nat) : List Nat := [116, 48, 49 + xq % 9, 109] ++ [48 + xq % 2]
theorem walk_blk {yq : Nat} : walk (blk yq) := by
  have h := walk_a (wk_w (aq := yq % 26) (by omega)) (walk_a (wk_w (aq := 25 - yq % 25) (by omega)) (walk_a (wk_s (aq := yq % 8) (bq := yq % 9) (cq := yq % 10) (dq := yq % 6) (by omega) (by omega) (by omega) (by omega)) (walk_a (wk_t (aq := yq % 9) (by omega)) (walk_a (wk_x (aq := yq % 10) (bq := yq / 10 % 10) (by omega) (by omega)) (wk_r (aq := yq % 4) (by omega))))))
  have e : 65 + (25 - yq % 25) = 90 - yq % 25 := by omega
  rw [e] at h
  exact h
theorem walk_fin {xq : Nat} : walk (fin9 xq) := by
  have h := walk_a (wk_t (aq := xq % 9) (by omega)) (wk_m (aq := xq % 2) (by omega))
  exact h
theorem blk_len {yq : Nat} : (blk yq).length = 20 := rfl
theorem fin_len {xq : Nat} : (fin9 xq).length = 5 := rfl
