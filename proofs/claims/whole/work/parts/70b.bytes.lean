-- the law: its rows are its bytes
theorem gs_allc {α : Type} {l : List α} {p : α → Bool} (n : Nat) (h1 : (l.take n).all p = true) (h2 : (l.drop n).all p = true) : l.all p = true := by
  rw [← List.take_append_drop n l, List.all_append, h1, h2]
  rfl
theorem i_L_0 : (I_L_law.take 25).all (gs_chk code) = true := by decide +kernel
theorem i_L_1 : ((I_L_law.drop 25).take 25).all (gs_chk code) = true := by decide +kernel
theorem i_L_2 : ((I_L_law.drop 50).take 25).all (gs_chk code) = true := by decide +kernel
theorem i_L_3 : ((I_L_law.drop 75).take 25).all (gs_chk code) = true := by decide +kernel
