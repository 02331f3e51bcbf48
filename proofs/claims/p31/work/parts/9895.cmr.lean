/-! the pure part: the reading object and the class as a whole -/
section QA
variable {xx tq cq : Nat} {w w1 : pwW} {lq : Int32} {sq s2 : RS} {Fq : FS}
theorem mr_idem : mkR tq lq sq (mkR tq lq s2 w) = mkR tq lq sq w := by
  funext aq
  by_cases h1 : aq = tq
  · subst h1; unfold mkR; rw [mx_0, mx_0]
  · by_cases h2 : aq = tq + 2
    · subst h2; unfold mkR; rw [mx_2, mx_2]
    · unfold mkR; rw [mx_o h1 h2, mx_o h1 h2, mx_o h1 h2]
theorem mr_congr (h1 : w1 tq = w tq) (h2 : w1 (tq + 2) = w (tq + 2)) (hw : w = mkR tq lq sq w) : w1 = mkR tq lq sq w1 := by
  funext aq
  by_cases e1 : aq = tq
  · subst e1
    rw [h1, congrFun hw aq]; unfold mkR; rw [mx_0, mx_0]
  · by_cases e2 : aq = tq + 2
    · subst e2
      rw [h2, congrFun hw (tq + 2)]; unfold mkR; rw [mx_2, mx_2]
    · unfold mkR; rw [mx_o e1 e2]
theorem cls_mr (hC : clsW xx Fq w) : clsW xx Fq (mkR (xx + 1) (zN Fq.1.length) sq w) := by
  have hC2 := hC
  obtain ⟨c1, c2, c3, c4, ht, -⟩ := hC2
  exact cls_text hC (fun aq h => mx_o (by omega) (by omega)) (text_mr ht)
theorem lt7 (h : ltI cq < 7) : cq = 119 ∨ cq = 115 ∨ cq = 98 ∨ cq = 114 ∨ cq = 109 ∨ cq = 120 ∨ cq = 116 := by
  unfold ltI at h
  by_cases h1 : cq = 119
  · exact Or.inl h1
  · by_cases h2 : cq = 115
    · exact Or.inr (Or.inl h2)
    · by_cases h3 : cq = 98
      · omega
      · by_cases h4 : cq = 114
        · omega
        · by_cases h5 : cq = 109
          · omega
          · by_cases h6 : cq = 120
            · omega
            · by_cases h7 : cq = 116
              · omega
              · rw [if_neg h1, if_neg h2, if_neg h3, if_neg h4, if_neg h5, if_neg h6, if_neg h7] at h
                omega
end QA
