-- the law: its rows are its bytes
theorem i_L_12 : ((I_L_law.drop 300).take 25).all (gs_chk code) = true := by decide +kernel
theorem i_L_13 : ((I_L_law.drop 325).take 25).all (gs_chk code) = true := by decide +kernel
theorem i_L_14 : ((I_L_law.drop 350).take 25).all (gs_chk code) = true := by decide +kernel
theorem i_L_15 : ((I_L_law.drop 375).take 25).all (gs_chk code) = true := by decide +kernel
