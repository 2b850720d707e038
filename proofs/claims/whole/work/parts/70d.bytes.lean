-- the law: its rows are its bytes
theorem i_L_8 : ((I_L_law.drop 200).take 25).all (gs_chk code) = true := by decide +kernel
theorem i_L_9 : ((I_L_law.drop 225).take 25).all (gs_chk code) = true := by decide +kernel
theorem i_L_10 : ((I_L_law.drop 250).take 25).all (gs_chk code) = true := by decide +kernel
theorem i_L_11 : ((I_L_law.drop 275).take 25).all (gs_chk code) = true := by decide +kernel
