-- the law: its rows are its bytes
theorem i_L_20 : ((I_L_law.drop 500).take 25).all (gs_chk code) = true := by decide +kernel
theorem i_L_21 : ((I_L_law.drop 525).take 25).all (gs_chk code) = true := by decide +kernel
theorem i_L_22 : ((I_L_law.drop 550).take 25).all (gs_chk code) = true := by decide +kernel
theorem i_L_all : I_L_law.all (gs_chk code) = true := by
  refine gs_allc (l := I_L_law) 25 i_L_0 ?_
  refine gs_allc (l := (I_L_law.drop 25)) 25 i_L_1 ?_
  rw [List.drop_drop]
  refine gs_allc (l := (I_L_law.drop 50)) 25 i_L_2 ?_
  rw [List.drop_drop]
  refine gs_allc (l := (I_L_law.drop 75)) 25 i_L_3 ?_
  rw [List.drop_drop]
  refine gs_allc (l := (I_L_law.drop 100)) 25 i_L_4 ?_
  rw [List.drop_drop]
  refine gs_allc (l := (I_L_law.drop 125)) 25 i_L_5 ?_
  rw [List.drop_drop]
  refine gs_allc (l := (I_L_law.drop 150)) 25 i_L_6 ?_
  rw [List.drop_drop]
  refine gs_allc (l := (I_L_law.drop 175)) 25 i_L_7 ?_
  rw [List.drop_drop]
  refine gs_allc (l := (I_L_law.drop 200)) 25 i_L_8 ?_
  rw [List.drop_drop]
  refine gs_allc (l := (I_L_law.drop 225)) 25 i_L_9 ?_
  rw [List.drop_drop]
  refine gs_allc (l := (I_L_law.drop 250)) 25 i_L_10 ?_
  rw [List.drop_drop]
  refine gs_allc (l := (I_L_law.drop 275)) 25 i_L_11 ?_
  rw [List.drop_drop]
  refine gs_allc (l := (I_L_law.drop 300)) 25 i_L_12 ?_
  rw [List.drop_drop]
  refine gs_allc (l := (I_L_law.drop 325)) 25 i_L_13 ?_
  rw [List.drop_drop]
  refine gs_allc (l := (I_L_law.drop 350)) 25 i_L_14 ?_
  rw [List.drop_drop]
  refine gs_allc (l := (I_L_law.drop 375)) 25 i_L_15 ?_
  rw [List.drop_drop]
  refine gs_allc (l := (I_L_law.drop 400)) 25 i_L_16 ?_
  rw [List.drop_drop]
  refine gs_allc (l := (I_L_law.drop 425)) 25 i_L_17 ?_
  rw [List.drop_drop]
  refine gs_allc (l := (I_L_law.drop 450)) 25 i_L_18 ?_
  rw [List.drop_drop]
  refine gs_allc (l := (I_L_law.drop 475)) 25 i_L_19 ?_
  rw [List.drop_drop]
  refine gs_allc (l := (I_L_law.drop 500)) 25 i_L_20 ?_
  rw [List.drop_drop]
  refine gs_allc (l := (I_L_law.drop 525)) 25 i_L_21 ?_
  rw [List.drop_drop]
  refine gs_allc (l := (I_L_law.drop 550)) 25 i_L_22 ?_
  rw [List.drop_drop]
  decide +kernel
theorem m_L_law : gs_mok code lw_tbl "GrossSettlementLaw" gs_CL P_L_law := gs_mok_of (host := "GrossSettlement") (Tb := []) (fun _ h => absurd h List.not_mem_nil) i_L_all (by decide +kernel) (by decide +kernel) (by decide +kernel)
