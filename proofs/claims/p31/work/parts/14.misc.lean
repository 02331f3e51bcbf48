/-! objects made, rows copied, statics, switches, the small callees of the JDK -/
section PWH2
variable {K : pwKK} {p : Program} {l : Launch} {e : Env} {R : Room} {s : State} {m : MethodId} {args : Array Value} {below : List Frame} {meth : Method} {c : Code} {Q : State → Prop} {k0 s0 : Nat} {mt : pwMT} {pc len mi : Nat} {r : pwRP} {L : pwLL} {st : List Value} {g : pwG} {w : pwW} {x : pwS}
theorem pwI_new {i : Nat} (hrc : x.2.2.2.1.2.2.1 ≤ R.cells + k0) (hrs : x.2.2.2.1.2.2.2 ≤ R.slots + s0) (C : pwCx K p l R s m args meth c mt) (d : decode mt.1.2.2 pc = .ok (.new i, len)) (hk : pwChkL mt pc (.new i) len r = true) (ha : pwAct1 (.new i) len r mi pc L st g w = some (.inl x)) (kk : pwV K p l e R s m args below meth c Q k0 s0 mt x) : pwV K p l e R s m args below meth c Q k0 s0 mt (pc, L, st, g, w) := by
  simp only [pwAct1] at ha
  cases hb : Nat.ble 100 r.1 with
  | true =>
    rw [hb, cond_true] at ha
    cases hb2 : Nat.beq (pwCats st) 0 with
    | true => rw [hb2] at ha; simp only [cond_true, pwThr, Option.some.injEq, reduceCtorEq] at ha
    | false => rw [hb2] at ha; cases ha
  | false =>
    rw [hb, cond_false] at ha
    obtain ⟨fs, hfs, ha⟩ := Option.bind_eq_some_iff.mp ha
    split at ha
    · rename_i hc
      simp only [pwGo, Option.some.injEq, Sum.inl.injEq] at ha; subst ha
      simp only [pwChkL, Bool.and_eq_true, Nat.beq_eq, hb, cond_false] at hk
      obtain ⟨hlen, hk⟩ := hk
      subst hlen
      cases hq : pwCl[r.1]? with
      | none => rw [hq] at hk; cases hk
      | some q =>
        rw [hq] at hk
        dsimp only at hk
        intro H locs cells slots ls hR hS hL h1 h2
        have hR : pwRW K g w H := hR
        have h1 : cells + k0 = g.2.2.1 := h1
        have h2 : slots + s0 = g.2.2.2 := h2
        obtain ⟨hx, hcc, hr, hml, hown, hts, hlk, hin, htb, hst, hf, hlo, hKB⟩ := id C
        obtain ⟨y, fs0, f1, f2, f3, f4, f5, f6, f7, f8, f9⟩ := pwClOk hq
        cases hfs.symm.trans f2
        have hsz : H.size = g.1 := hR.2.2.2.2 hc
        have hKn := hKB.1.1 r.1 _ hq
        dsimp only at hrc hrs
        refine W.newcK (n := q.2.2) hx hcc hown (hts _ (pwIn_mem hk)) (hts _ f8) (hts _ f9) rfl d (by omega) (by omega) hKn.2.1 hsz fun H1 kC hkC e1 z1 o1 => ?_
        refine kk H1 locs (cells + 1) (slots + q.2.2) ls (hR.new hc rfl trivial ?_ (by omega) (fun z hz => o1 z (by omega))) ⟨by have := hS.1; omega, fun z h3 h4 => (o1 z (by have := hS.1; omega)).trans (hS.2.1 z h3 h4), hS.2.2⟩ hL (by dsimp only; omega) (by dsimp only; omega)
        exact ⟨_, hq, (u_born y hts f6 hKn hkC e1 f4).to f7⟩
    · cases ha
theorem pwI_aastore (C : pwCx K p l R s m args meth c mt) (d : decode mt.1.2.2 pc = .ok (.aastore, len)) (hk : pwChkL mt pc (.aastore) len r = true) (ha : pwAct1 (.aastore) len r mi pc L st g w = some (.inl x)) (kk : pwV K p l e R s m args below meth c Q k0 s0 mt x) : pwV K p l e R s m args below meth c Q k0 s0 mt (pc, L, st, g, w) := by
  have hlen : len = 1 := by simpa [pwChkL] using hk
  subst hlen
  simp only [pwAct1] at ha
  split at ha
  · rename_i xv i a st'
    obtain ⟨w1, hv, ha⟩ := Option.bind_eq_some_iff.mp ha
    simp only [pwGo, Option.some.injEq, Sum.inl.injEq] at ha; subst ha
    unfold pwStQ at hv
    split at hv
    · rename_i t n f hw
      split at hv
      · rename_i hc
        cases hv
        intro H locs cells slots ls hR hS hL h1 h2
        have hR : pwRW K g w H := hR
        have h1 : cells + k0 = g.2.2.1 := h1
        have h2 : slots + s0 = g.2.2.2 := h2
        obtain ⟨hx, hcc, hr, hml, hown, hts, hlk, hin, htb, hst, hf, hlo, hKB⟩ := id C
        obtain ⟨rfl, hxv⟩ := hc.1
        obtain ⟨q1, q2, q3⟩ := hR.1 a (by rw [hw]; exact (by decide : 3 ≤ 3))
        rw [hw] at q3
        unfold pwIsC at hxv
        cases hwx : w xv with
        | inl z => rw [hwx] at hxv; cases hxv
        | inr z =>
          obtain ⟨cx, fx⟩ := z
          rw [hwx] at hxv
          have hcx : cx = 4 := Nat.eq_of_beq_eq_true hxv
          subst hcx
          obtain ⟨q4, q5, q6⟩ := hR.1 xv (by rw [hwx]; trivial)
          rw [hwx] at q6
          obtain ⟨r', hr', cellV, g1, g2, g3, -⟩ := q6
          cases hr'
          have hcls := (hKB.1.1 4 (pwR_X5, pwT_X5, 12) rfl).2
          obtain ⟨kA, comp, k1, k2, k3, -⟩ := (hKB.1.2 3 _ rfl).2
          have hcomp : comp = K.2.1.1 4 := Option.some.inj (k3.symm.trans hcls.1)
          subst hcomp
          obtain ⟨kC, hkC, -⟩ := hcls.2
          have hvi := pwVin hc.2
          refine W.aast hx hcc q3 (fun q h => by cases h) (fun h => by cases h) k1 k2 rfl hkC ⟨Int32.not_lt.mpr hc.2.1, by show _ < (arrV _ _ _).slots.size; rw [arrV_size]; exact hc.2.2⟩ g1 (fun q h => by rw [g3] at h; cases h) (by rw [g2]; exact hkC) (by rw [g2]; exact va_assign hcls) rfl rfl d fun H1 e9 z oq => ?_
          refine kk H1 _ cells slots ls (hR.set ⟨q1, q2⟩ (by decide : 3 ≤ 3) ?_ z oq) (hS.put z oq q1) hL h1 h2
          show H1[a]? = some (vp_cell _ _)
          rw [e9]
          rw [vp_cell_q, vp_cell_q, arrV_store]
          congr 2
          funext q
          by_cases hq : q = i.toNatClampNeg
          · subst hq
            simp [updV, va_up, va_rf]
          · simp [updV, va_up, hq]
      · cases hv
    · cases hv
  · cases ha
theorem pwNn {z : Int32} (hz : 0 ≤ z) : z.toInt = (z.toNatClampNeg : Int) := by
  have hz0 : (0 : Int) ≤ z.toInt := by simpa using Int32.le_iff_toInt_le.mp hz
  show z.toInt = ((z.toInt.toNat : Nat) : Int)
  omega
theorem pwIn_cp1 : Jvm.Cond.native arraycopyName ∈ pwGw := by decide +kernel
theorem pwIn_cp2 : Jvm.Cond.static arraycopyName ∈ pwGw := by decide +kernel
theorem pwIn_cp3 : Jvm.Cond.initialized "java/lang/System" ∈ pwGw := by decide +kernel
theorem pwIn_mi1 : Jvm.Cond.static Lib.Math.min.name ∈ pwGw := by decide +kernel
theorem pwIn_mi2 : Jvm.Cond.initialized "java/lang/Math" ∈ pwGw := by decide +kernel
theorem pwIn_mi3 : Jvm.Cond.code Lib.Math.min.name Lib.Math.min.code 2 (some .int) ∈ pwGw := by decide +kernel
theorem pwIn_ma1 : Jvm.Cond.static Lib.Math.max.name ∈ pwGw := by decide +kernel
theorem pwIn_ma3 : Jvm.Cond.code Lib.Math.max.name Lib.Math.max.code 2 (some .int) ∈ pwGw := by decide +kernel
theorem pwIn_oi1 : Jvm.Cond.instanceMethod objectInit ∈ pwGw := by decide +kernel
theorem pwIn_oi2 : Jvm.Cond.code objectInit ⟨#[0xb1]⟩ 1 none ∈ pwGw := by decide +kernel
/-- rows of ints copied -/
theorem pwCopyR {i a b n0 n1 : Nat} {f f1 : Nat → Int32} {sp dp n : Int32} {rest : List Value} {H : Heap} {locs : List Loc} {cells slots : Nat} {ls : Array Slot} (C : pwCx K p l R s m args meth c mt) (hls : ls.size = mt.2.1.1) (hlink : Jvm.Cond.methodLink mt.1.1 i arraycopyName ∈ pwGw) (hfr : 1 ≤ R.frames) (hlo : 8 + (nativeFrameWords "java/lang/System" "arraycopy" 5 + 11) ≤ R.locals) (hrest : (rest.map fun v => v.category).sum ≤ 8)
    (ha : va_at K.2.1 pwCl (a, .inl (K.2.2.1 0, n0, .inl f)) H) (hb : va_at K.2.1 pwCl (b, .inl (K.2.2.1 0, n1, .inl f1)) H) (hA : K.1 ≤ b) (h1 : 0 ≤ sp) (h2 : 0 ≤ dp) (h3 : 0 ≤ n) (h4 : sp.toNatClampNeg + n.toNatClampNeg ≤ n0) (h5 : dp.toNatClampNeg + n.toNatClampNeg ≤ n1) (hS : va_S (pwA K.1) s.heap H locs) (d : decode mt.1.2.2 pc = .ok (.invokestatic i, 3))
    (kk : ∀ (H' : Heap) (locs' : List Loc), va_at K.2.1 pwCl (b, .inl (K.2.2.1 0, n1, .inl (va_cpy f f1 sp.toNatClampNeg dp.toNatClampNeg n.toNatClampNeg))) H' → H'.size = H.size → (∀ z, z ≠ b → H'[z]? = H[z]?) → va_S (pwA K.1) s.heap H' locs' → W p l e R s m args below meth c H' locs' cells slots Q (F0 m (pc + 3) ls rest)) : W p l e R s m args below meth c H locs cells slots Q (F0 m pc ls (.int n :: .int dp :: .ref b :: .int sp :: .ref a :: rest)) := by
  obtain ⟨hx, hcc, hr, hml, hown, hts, hlk, hin, htb, hst9, hf, hlo9, hKB⟩ := id C
  intro T hT X
  have hc0 : H[a]? = some (vp_cell (K.2.2.1 0) (n0, .inl f)) := ha
  have hc1 : H[b]? = some (vp_cell (K.2.2.1 0) (n1, .inl f1)) := hb
  obtain ⟨-, kA, hkA, cm0, hkk0⟩ := (hKB.1.2 0 _ rfl).1 n0 (fun j => .int (f j))
  obtain ⟨-, kB, hkB, cm1, hkk1⟩ := (hKB.1.2 0 _ rfl).1 n1 (fun j => .int (f1 j))
  have nsp := pwNn h1
  have ndp := pwNn h2
  have nn := pwNn h3
  obtain ⟨vm', X', step⟩ := X.arraycopy hx hown (hts _ hlink) (hts _ pwIn_cp1) (hts _ pwIn_cp2) (hts _ pwIn_cp3) (src := a) (dst := b) (cs := vp_cell (K.2.2.1 0) (n0, .inl f)) (cd := vp_cell (K.2.2.1 0) (n1, .inl f1)) (srcPos := sp) (destPos := dp) (n := n) (by rw [hT]; exact hc0) (by rw [hT]; exact hc1)
    (fun _ h => by cases h) (fun _ h => by cases h) (fun h => by cases h) (fun h => by cases h) hkA hkB hkk0 hkk1 (by rfl) (Int32.not_lt.mpr h1) (Int32.not_lt.mpr h2) (Int32.not_lt.mpr h3)
    (by rw [nsp, nn]; show ¬ _ > ((arrV _ n0 (fun j => .int (f j))).slots.size : Int); rw [arrV_size]; omega)
    (by rw [ndp, nn]; show ¬ _ > ((arrV _ n1 (fun j => .int (f1 j))).slots.size : Int); rw [arrV_size]; omega)
    (fun vm₁ _ i hi => by
      have e : (vp_cell (K.2.2.1 0) (n0, .inl f)).slots.getD (sp.toNatClampNeg + i) .null = .int (f (sp.toNatClampNeg + i)) := by
        show (arrV _ n0 (fun j => .int (f j))).slots.getD _ _ = _
        rw [Array.getD_eq_getD_getElem?, arrV_read _ _ (by omega)]
        rfl
      exact ⟨by rw [e]; rfl, by rw [e]; exact trivial⟩)
    (g := F0 m pc ls (.int n :: .int dp :: .ref b :: .int sp :: .ref a :: rest)) rfl (by rw [hml]; exact hls) (rest := rest) rfl (by rw [hcc]; exact d) hfr (by show 2 * 0 + _ + _ ≤ _; omega)
  have e1 : copied (vp_cell (K.2.2.1 0) (n0, .inl f)) (vp_cell (K.2.2.1 0) (n1, .inl f1)) sp dp n = vp_cell (K.2.2.1 0) (n1, .inl (va_cpy f f1 sp.toNatClampNeg dp.toNatClampNeg n.toNatClampNeg)) := va_copied (fun z => .int z) _ _ f f1 h4
  rw [e1] at X' step
  have hl : b < H.size := (Array.getElem?_eq_some_iff.mp hc1).1
  have hheap : ((T.setVm vm').setCell b (vp_cell (K.2.2.1 0) (n1, .inl (va_cpy f f1 sp.toNatClampNeg dp.toNatClampNeg n.toNatClampNeg)))).heap = H.setIfInBounds b (vp_cell (K.2.2.1 0) (n1, .inl (va_cpy f f1 sp.toNatClampNeg dp.toNatClampNeg n.toNatClampNeg))) := by rw [← hT]; rfl
  have oq : ∀ z : Nat, z ≠ b → (H.setIfInBounds b (vp_cell (K.2.2.1 0) (n1, .inl (va_cpy f f1 sp.toNatClampNeg dp.toNatClampNeg n.toNatClampNeg))))[z]? = H[z]? := fun z hz => by simp [Array.getElem?_setIfInBounds, Ne.symm hz]
  obtain ⟨t, a1, b1⟩ := kk _ _ (show (H.setIfInBounds b _)[b]? = some _ by simp [Array.getElem?_setIfInBounds, hl]) (by simp) oq ⟨by simp; exact hS.1, fun z g1 g2 => by
      rw [oq z (fun e => g2 (by rw [e]; exact hA))]
      exact hS.2.1 z g1 g2, fun z hz => by
      rcases List.mem_append.mp hz with h | h
      · exact hS.2.2 z h
      · obtain ⟨z9, -, hz9⟩ := List.mem_map.mp h
        rw [← hz9]
        exact hA⟩ _ hheap X'
  exact ⟨t, step t a1, b1⟩
theorem pwI_static {i : Nat} (hrc : x.2.2.2.1.2.2.1 ≤ R.cells + k0) (hrs : x.2.2.2.1.2.2.2 ≤ R.slots + s0) (C : pwCx K p l R s m args meth c mt) (d : decode mt.1.2.2 pc = .ok (.invokestatic i, len)) (hk : pwChkL mt pc (.invokestatic i) len r = true) (ha : pwAct1 (.invokestatic i) len r mi pc L st g w = some (.inl x)) (kk : pwV K p l e R s m args below meth c Q k0 s0 mt x) : pwV K p l e R s m args below meth c Q k0 s0 mt (pc, L, st, g, w) := by
  have hlen : len = 3 := by
    simp only [pwChkL, Bool.and_eq_true, Nat.beq_eq] at hk
    exact hk.1
  subst hlen
  simp only [pwChkL, Bool.and_eq_true, Nat.beq_eq, true_and] at hk
  simp only [pwAct1] at ha
  cases b1 : Nat.beq r.1 1001 with
  | true =>
    rw [b1, cond_true] at ha
    simp only [b1, cond_true, Bool.and_eq_true] at hk
    split at ha
    · rename_i y xv rest
      cases b2 : Nat.ble (pwCats rest) 8 with
      | false => rw [b2] at ha; cases ha
      | true =>
        rw [b2, cond_true] at ha
        simp only [pwGo, Option.some.injEq, Sum.inl.injEq] at ha; subst ha
        intro H locs cells slots ls hR hS hL h1 h2
        have hR : pwRW K g w H := hR
        have h1 : cells + k0 = g.2.2.1 := h1
        have h2 : slots + s0 = g.2.2.2 := h2
        obtain ⟨hx, hcc, hr, hml, hown, hts, hlk, hin, htb, hst, hf, hlo, hKB⟩ := id C
        have hb2 : (rest.map fun v => v.category).sum ≤ 8 := Nat.le_of_ble_eq_true b2
        have hk2 : 1 ≤ mt.2.2.1.1 := Nat.le_of_ble_eq_true hk.1.2
        have hk3 : 21 ≤ mt.2.2.1.2.1 := Nat.le_of_ble_eq_true hk.2
        have hc : cells ≤ R.cells := by dsimp only at hrc h1; omega
        have hs : slots ≤ R.slots := by dsimp only at hrs h2; omega
        refine va_mmin hx hcc (hml.trans hL.1.symm) hown (hts _ (pwIn_mem hk.1.1)) (hts _ pwIn_mi1) (hts _ pwIn_mi2) (hts _ pwIn_mi3) (by omega) (by omega) hc hs d ?_
        exact kk H locs cells slots ls hR hS hL h1 h2
    · cases ha
  | false =>
    rw [b1, cond_false] at ha
    simp only [b1, cond_false] at hk
    cases b3 : Nat.beq r.1 1002 with
    | true =>
      rw [b3, cond_true] at ha
      simp only [b3, cond_true, Bool.and_eq_true] at hk
      split at ha
      · rename_i y xv rest
        cases b2 : Nat.ble (pwCats rest) 8 with
        | false => rw [b2] at ha; cases ha
        | true =>
          rw [b2, cond_true] at ha
          simp only [pwGo, Option.some.injEq, Sum.inl.injEq] at ha; subst ha
          intro H locs cells slots ls hR hS hL h1 h2
          have hR : pwRW K g w H := hR
          have h1 : cells + k0 = g.2.2.1 := h1
          have h2 : slots + s0 = g.2.2.2 := h2
          obtain ⟨hx, hcc, hr, hml, hown, hts, hlk, hin, htb, hst, hf, hlo, hKB⟩ := id C
          have hb2 : (rest.map fun v => v.category).sum ≤ 8 := Nat.le_of_ble_eq_true b2
          have hk2 : 1 ≤ mt.2.2.1.1 := Nat.le_of_ble_eq_true hk.1.2
          have hk3 : 21 ≤ mt.2.2.1.2.1 := Nat.le_of_ble_eq_true hk.2
          have hc : cells ≤ R.cells := by dsimp only at hrc h1; omega
          have hs : slots ≤ R.slots := by dsimp only at hrs h2; omega
          refine va_mmax hx hcc (hml.trans hL.1.symm) hown (hts _ (pwIn_mem hk.1.1)) (hts _ pwIn_ma1) (hts _ pwIn_mi2) (hts _ pwIn_ma3) (by omega) (by omega) hc hs d ?_
          exact kk H locs cells slots ls hR hS hL h1 h2
      · cases ha
    | false =>
      rw [b3, cond_false] at ha
      simp only [b3, cond_false] at hk
      cases b4 : Nat.beq r.1 1003 with
      | true =>
        rw [b4, cond_true] at ha
        simp only [b4, cond_true, Bool.and_eq_true] at hk
        split at ha
        · rename_i nv dp b sp a rest
          cases b2 : Nat.ble (pwCats rest) 8 with
          | false => rw [b2] at ha; cases ha
          | true =>
            rw [b2, cond_true] at ha
            obtain ⟨w1, hv, ha⟩ := Option.bind_eq_some_iff.mp ha
            simp only [pwGo, Option.some.injEq, Sum.inl.injEq] at ha; subst ha
            unfold pwCpy at hv
            split at hv
            · rename_i t m1 f t' m2 f2 hwa hwb
              split at hv
              · rename_i hc
                cases hv
                intro H locs cells slots ls hR hS hL h1 h2
                have hR : pwRW K g w H := hR
                have h1 : cells + k0 = g.2.2.1 := h1
                have h2 : slots + s0 = g.2.2.2 := h2
                obtain ⟨rfl, rfl⟩ := hc.1
                obtain ⟨q1, q2, q3⟩ := hR.1 a (by rw [hwa]; exact Nat.zero_le 3)
                rw [hwa] at q3
                obtain ⟨q4, q5, q6⟩ := hR.1 b (by rw [hwb]; exact Nat.zero_le 3)
                rw [hwb] at q6
                obtain ⟨hx, hcc, hr, hml, hown, hts, hlk, hin, htb, hst, hf, hlo, hKB⟩ := id C
                have hk2 : 1 ≤ mt.2.2.1.1 := Nat.le_of_ble_eq_true hk.1.2
                have hk3 := Nat.le_of_ble_eq_true hk.2
                refine pwCopyR C hL.1 (pwIn_mem hk.1.1) (Nat.le_trans hk2 hf) (Nat.le_trans hk3 hlo) (Nat.le_of_ble_eq_true b2) q3 q6 q4 hc.2.1.1 hc.2.1.2.1 hc.2.1.2.2 hc.2.2.1 hc.2.2.2 hS d (fun H' locs' e1 e2 e3 hS' => ?_)
                exact kk H' locs' cells slots ls (hR.set ⟨q4, q5⟩ (Nat.zero_le 3) e1 e2 e3) hS' hL h1 h2
              · cases hv
            · cases hv
        · cases ha
      | false =>
        rw [b4, cond_false] at ha
        obtain ⟨mc, hmc, ha⟩ := Option.bind_eq_some_iff.mp ha
        generalize hbb : (Nat.beq (st.take mc.2.1.2.2).length mc.2.1.2.2 && Nat.ble (pwCats (st.drop mc.2.1.2.2)) 8 && Nat.ble (pwMkl (st.take mc.2.1.2.2).reverse).length mc.2.1.1) = bb at ha
        cases bb with
        | false => cases ha
        | true => simp only [cond_true, Option.some.injEq, reduceCtorEq] at ha
theorem pwI_special {i : Nat} (C : pwCx K p l R s m args meth c mt) (d : decode mt.1.2.2 pc = .ok (.invokespecial i, len)) (hk : pwChkL mt pc (.invokespecial i) len r = true) (ha : pwAct1 (.invokespecial i) len r mi pc L st g w = some (.inl x)) (kk : pwV K p l e R s m args below meth c Q k0 s0 mt x) : pwV K p l e R s m args below meth c Q k0 s0 mt (pc, L, st, g, w) := by
  have hlen : len = 3 := by
    simp only [pwChkL, Bool.and_eq_true, Nat.beq_eq] at hk
    exact hk.1
  subst hlen
  simp only [pwChkL, Bool.and_eq_true, Nat.beq_eq, true_and] at hk
  simp only [pwAct1] at ha
  cases b1 : Nat.beq r.1 1000 with
  | true =>
    rw [b1, cond_true] at ha
    simp only [b1, cond_true, Bool.and_eq_true] at hk
    split at ha
    · rename_i a rest
      cases b2 : Nat.ble (pwCats rest) 8 with
      | false => rw [b2] at ha; cases ha
      | true =>
        rw [b2, cond_true] at ha
        simp only [pwGo, Option.some.injEq, Sum.inl.injEq] at ha; subst ha
        intro H locs cells slots ls hR hS hL h1 h2
        have hR : pwRW K g w H := hR
        have h1 : cells + k0 = g.2.2.1 := h1
        have h2 : slots + s0 = g.2.2.2 := h2
        obtain ⟨hx, hcc, hr, hml, hown, hts, hlk, hin, htb, hst, hf, hlo, hKB⟩ := id C
        have hb2 : (rest.map fun v => v.category).sum ≤ 8 := Nat.le_of_ble_eq_true b2
        have hk2 : 1 ≤ mt.2.2.1.1 := Nat.le_of_ble_eq_true hk.1.2
        have hk3 : 20 ≤ mt.2.2.1.2.1 := Nat.le_of_ble_eq_true hk.2
        refine W.objInit hx hcc hown (hts _ (pwIn_mem hk.1.1)) (hts _ pwIn_oi1) (hts _ pwIn_oi2) rfl (hL.1.trans hml.symm) rfl d (by omega) (by show 2 * 0 + _ + 12 ≤ _; omega) ?_
        exact kk H locs cells slots ls hR hS hL h1 h2
    · cases ha
  | false =>
    rw [b1, cond_false] at ha
    obtain ⟨mc, hmc, ha⟩ := Option.bind_eq_some_iff.mp ha
    split at ha
    · rename_i hd
      generalize hbb : (pwIsC w _ mc.2.2.1.2.2 && _ && _ && _ && _) = bb at ha
      cases bb with
      | false => cases ha
      | true => simp only [cond_true, Option.some.injEq, reduceCtorEq] at ha
    · cases ha
theorem pwSwt_out : ∀ (l9 : List (Int32 × Nat)) (d9 : Nat) (x9 : Int32), (∀ q ∈ l9, x9 ≠ q.1) → pwSwt l9 d9 x9 = d9
  | [], _, _, _ => rfl
  | q :: qs, d9, x9, h => by
    rw [pwSwt, if_neg (h q List.mem_cons_self)]
    exact pwSwt_out qs d9 x9 fun q' hq => h q' (List.mem_cons_of_mem _ hq)
theorem pwSwt_in : ∀ (l9 : List (Int32 × Nat)) (d9 : Nat) (x9 : Int32) (q : Int32 × Nat), q ∈ l9 → x9 = q.1 → (∀ q' ∈ l9, q'.1 = x9 → q'.2 = q.2) → pwSwt l9 d9 x9 = q.2
  | [], _, _, _, h, _, _ => nomatch h
  | q0 :: qs, d9, x9, q, h, hx, hu => by
    by_cases h0 : x9 = q0.1
    · rw [pwSwt, if_pos h0]
      exact hu q0 List.mem_cons_self h0.symm
    · rw [pwSwt, if_neg h0]
      rcases List.mem_cons.mp h with h | h
      · subst h; exact absurd hx h0
      · exact pwSwt_in qs d9 x9 q h hx fun q' hq => hu q' (List.mem_cons_of_mem _ hq)
theorem pwOfI {z9 : Int} (h1 : -1000 ≤ z9) (h2 : z9 ≤ 1000) : (Int32.ofInt z9).toInt = z9 := by
  exact Int32.toInt_ofInt_of_le (by omega) (by omega)
theorem pwOfT (x9 : Int32) : Int32.ofInt x9.toInt = x9 := Int32.ofInt_toInt x9
theorem pwI_tableswitch {d9 lo hi : Int} {offs : Array Int} (C : pwCx K p l R s m args meth c mt) (d : decode mt.1.2.2 pc = .ok (.tableswitch d9 lo hi offs, len)) (hk : pwChkL mt pc (.tableswitch d9 lo hi offs) len r = true) (ha : pwAct1 (.tableswitch d9 lo hi offs) len r mi pc L st g w = some (.inl x)) (kk : pwV K p l e R s m args below meth c Q k0 s0 mt x) : pwV K p l e R s m args below meth c Q k0 s0 mt (pc, L, st, g, w) := by
  simp only [pwAct1] at ha
  split at ha
  · rename_i xv st'
    simp only [pwGo, Option.some.injEq, Sum.inl.injEq] at ha; subst ha
    simp only [pwChkL, Bool.and_eq_true, decide_eq_true_eq, List.all_eq_true] at hk
    obtain ⟨⟨⟨hd, hsz, hb1, hb2⟩, hl⟩, hpos⟩ := hk
    intro H locs cells slots ls hR hS hL h1 h2
    have hR : pwRW K g w H := hR
    have h1 : cells + k0 = g.2.2.1 := h1
    have h2 : slots + s0 = g.2.2.2 := h2
    by_cases hout : xv.toInt < lo ∨ hi < xv.toInt
    · have e1 : pwSwt r.2.2.2 r.1 xv = r.1 := by
        rw [hl]
        refine pwSwt_out _ _ _ fun q hq hne => ?_
        obtain ⟨j, hj, rfl⟩ := List.mem_map.mp hq
        have hj := List.mem_range.mp hj
        have h9 : xv.toInt = lo + (j : Int) := by rw [hne]; exact pwOfI (by omega) (by omega)
        omega
      rw [e1] at kk
      exact lv_tableOut C.1 C.2.1 d hout hd (kk H locs cells slots ls hR hS hL h1 h2)
    · have hlo9 : ¬ xv.toInt < lo := fun q => hout (Or.inl q)
      have hhi9 : ¬ hi < xv.toInt := fun q => hout (Or.inr q)
      obtain ⟨j, hj⟩ : ∃ j : Nat, (j : Int) = xv.toInt - lo := ⟨(xv.toInt - lo).toNat, by omega⟩
      have hjn : j < offs.size := by omega
      have hx9 : xv = Int32.ofInt (lo + (j : Int)) := by rw [hj, ← pwOfT xv]; congr 1; rw [pwOfT]; omega
      have hp := hpos j (List.mem_range.mpr hjn)
      have hge : offs[j]? = some (offs.getD j 0) := by rw [Array.getD_eq_getD_getElem?, Array.getElem?_eq_getElem hjn]; rfl
      have e1 : pwSwt r.2.2.2 r.1 xv = ((pc : Int) + offs.getD j 0).toNat := by
        rw [hl]
        refine pwSwt_in _ _ _ (Int32.ofInt (lo + (j : Int)), ((pc : Int) + offs.getD j 0).toNat) (List.mem_map.mpr ⟨j, List.mem_range.mpr hjn, rfl⟩) hx9 fun q hq hne => ?_
        obtain ⟨j2, hj2, rfl⟩ := List.mem_map.mp hq
        have hj2 := List.mem_range.mp hj2
        have h8 : xv.toInt = lo + (j2 : Int) := by rw [← hne]; exact pwOfI (by omega) (by omega)
        have : j2 = j := by omega
        subst this
        rfl
      rw [e1] at kk
      refine lv_tableIn C.1 C.2.1 d hlo9 hhi9 (off := offs.getD j 0) ?_ (tgt := ((pc : Int) + offs.getD j 0).toNat) (by omega) (kk H locs cells slots ls hR hS hL h1 h2)
      rw [← hj, Int.toNat_natCast]
      exact hge
  · cases ha
theorem pwSwt_lk {pc9 : Nat} {d9 : Int} {t9 : Nat} (hd : (pc9 : Int) + d9 = (t9 : Int)) (x9 : Int32) : ∀ (l9 : List (Int × Int)), (∀ q ∈ l9, -1000 ≤ q.1 ∧ q.1 ≤ 1000 ∧ 0 ≤ (pc9 : Int) + q.2) → (pc9 : Int) + Op.lookupswitch.offset l9 d9 x9.toInt = ((pwSwt (l9.map fun q => (Int32.ofInt q.1, ((pc9 : Int) + q.2).toNat)) t9 x9 : Nat) : Int)
  | [], _ => hd
  | (a9, o9) :: qs, h => by
    obtain ⟨h1, h2, h3⟩ := h (a9, o9) List.mem_cons_self
    rw [Op.lookupswitch.offset_cons, List.map_cons, pwSwt]
    by_cases hx : x9 = Int32.ofInt a9
    · rw [if_pos hx, if_pos (by rw [hx]; exact (pwOfI h1 h2).symm)]
      dsimp only at h3 ⊢
      omega
    · rw [if_neg hx, if_neg (fun q => hx (by rw [q]; exact (pwOfT x9).symm))]
      exact pwSwt_lk hd x9 qs fun q hq => h q (List.mem_cons_of_mem _ hq)
theorem pwI_lookupswitch {d9 : Int} {ps : Array (Int × Int)} (C : pwCx K p l R s m args meth c mt) (d : decode mt.1.2.2 pc = .ok (.lookupswitch d9 ps, len)) (hk : pwChkL mt pc (.lookupswitch d9 ps) len r = true) (ha : pwAct1 (.lookupswitch d9 ps) len r mi pc L st g w = some (.inl x)) (kk : pwV K p l e R s m args below meth c Q k0 s0 mt x) : pwV K p l e R s m args below meth c Q k0 s0 mt (pc, L, st, g, w) := by
  simp only [pwAct1] at ha
  split at ha
  · rename_i xv st'
    simp only [pwGo, Option.some.injEq, Sum.inl.injEq] at ha; subst ha
    simp only [pwChkL, Bool.and_eq_true, decide_eq_true_eq] at hk
    obtain ⟨⟨⟨hd, hl⟩, hpos⟩, hso⟩ := hk
    intro H locs cells slots ls hR hS hL h1 h2
    have hR : pwRW K g w H := hR
    have h1 : cells + k0 = g.2.2.1 := h1
    have h2 : slots + s0 = g.2.2.2 := h2
    rw [hl] at kk
    refine lv_lookup C.1 C.2.1 d hso rfl (pwSwt_lk hd xv ps.toList fun q hq => ?_) (kk H locs cells slots ls hR hS hL h1 h2)
    have := List.all_eq_true.mp hpos q hq
    exact of_decide_eq_true this
  · cases ha
end PWH2
