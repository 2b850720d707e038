-- the law: its rows are its bytes
theorem i_L_16 : ((I_L_law.drop 400).take 25).all (gs_chk code) = true := by decide +kernel
theorem i_L_17 : ((I_L_law.drop 425).take 25).all (gs_chk code) = true := by decide +kernel
theorem i_L_18 : ((I_L_law.drop 450).take 25).all (gs_chk code) = true := by decide +kernel
theorem i_L_19 : ((I_L_law.drop 475).take 25).all (gs_chk code) = true := by decide +kernel
