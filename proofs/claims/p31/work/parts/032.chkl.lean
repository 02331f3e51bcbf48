/-! the law's own entries -/
theorem pwFk_L_law_0 : pwK_L_law_0.all (pwChkE pwM_L_law) = true := by decide +kernel
theorem pwFk_L_law_1 : pwK_L_law_1.all (pwChkE pwM_L_law) = true := by decide +kernel
theorem pwFk_L_law_2 : pwK_L_law_2.all (pwChkE pwM_L_law) = true := by decide +kernel
theorem pwFk_L_law_3 : pwK_L_law_3.all (pwChkE pwM_L_law) = true := by decide +kernel
theorem pwFk_L_law_4 : pwK_L_law_4.all (pwChkE pwM_L_law) = true := by decide +kernel
theorem pwFk_L_law_5 : pwK_L_law_5.all (pwChkE pwM_L_law) = true := by decide +kernel
theorem pwFk_L_law_6 : pwK_L_law_6.all (pwChkE pwM_L_law) = true := by decide +kernel
theorem pwFc_L_law : pwChkC pwM_L_law = true := pwCc (c := (48, pwK_L_law_0)) pwFk_L_law_0 (pwCc (c := (88, pwK_L_law_1)) pwFk_L_law_1 (pwCc (c := (138, pwK_L_law_2)) pwFk_L_law_2 (pwCc (c := (184, pwK_L_law_3)) pwFk_L_law_3 (pwCc (c := (228, pwK_L_law_4)) pwFk_L_law_4 (pwCc (c := (273, pwK_L_law_5)) pwFk_L_law_5 (pwCc (c := (292, pwK_L_law_6)) pwFk_L_law_6 (rfl)))))))
