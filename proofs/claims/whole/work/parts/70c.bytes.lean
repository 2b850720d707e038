-- the law: its rows are its bytes
theorem i_L_4 : ((I_L_law.drop 100).take 25).all (gs_chk code) = true := by decide +kernel
theorem i_L_5 : ((I_L_law.drop 125).take 25).all (gs_chk code) = true := by decide +kernel
theorem i_L_6 : ((I_L_law.drop 150).take 25).all (gs_chk code) = true := by decide +kernel
theorem i_L_7 : ((I_L_law.drop 175).take 25).all (gs_chk code) = true := by decide +kernel
