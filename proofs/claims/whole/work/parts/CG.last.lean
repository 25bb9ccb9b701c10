/-! what is owed -/
theorem i_vc : Claimed_1_1 ∧ Claimed_1_2 := sd_vc (lw_law (n1 := 60) (n2 := 60) (by decide) (by decide) (fun _ _ _ x => s_fault x) (fun _ _ _ x => s_text x))
