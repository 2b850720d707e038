-- settling, as a change of S
/-- what settling i does to S.1 f j -/
def gs_dl (S : gs_S) (i f j : Nat) : Int := (if f = 0 ∧ j = (S.1 (10 + i) 0 * 3 + S.1 (10 + i) 2).toNat then -S.1 (10 + i) 3 else 0) + (if f = 0 ∧ j = (S.1 (10 + i) 1 * 3 + S.1 (10 + i) 2).toNat then S.1 (10 + i) 3 else 0) + (if f = 0 ∧ j = (S.1 (10 + i) 1 * 3 + 0).toNat then -S.1 (10 + i) 4 else 0) + (if f = 0 ∧ j = (S.1 (10 + i) 0 * 3 + 0).toNat then S.1 (10 + i) 4 else 0) + (if f = 5 ∧ j = (S.1 (10 + i) 1 * 6 + S.1 (10 + i) 0).toNat then S.1 (10 + i) 4 else 0) + (if f = 5 ∧ j = (S.1 (10 + i) 0 * 6 + S.1 (10 + i) 1).toNat then -S.1 (10 + i) 4 else 0)
theorem gs_ad_at (S : gs_S) (f j : Nat) (x : Int) (a c : Nat) : (gs_ad S f j x).1 a c = S.1 a c + if a = f ∧ c = j then x else 0 := by
  show (if a = f ∧ c = j then S.1 f j + x else S.1 a c) = _
  by_cases h : a = f ∧ c = j
  · rw [if_pos h, if_pos h, h.1, h.2]
  · rw [if_neg h, if_neg h, Int.add_zero]
theorem gs_sb_at (S : gs_S) (f j : Nat) (x : Int) (a c : Nat) : (gs_sb S f j x).1 a c = S.1 a c + if a = f ∧ c = j then -x else 0 := by
  show (if a = f ∧ c = j then S.1 f j - x else S.1 a c) = _
  by_cases h : a = f ∧ c = j
  · rw [if_pos h, if_pos h, h.1, h.2]
    omega
  · rw [if_neg h, if_neg h, Int.add_zero]
theorem gs_mv_at (S : gs_S) (i : Nat) {sg : Int} (hs : sg = 1 ∨ sg = -1) (f j : Nat) : (gs_mv S (S.1 (10 + i) 0) (S.1 (10 + i) 1) (S.1 (10 + i) 2) (sg * S.1 (10 + i) 3) (sg * S.1 (10 + i) 4)).1 f j = S.1 f j + sg * gs_dl S i f j := by
  unfold gs_mv gs_dl
  rw [gs_sb_at, gs_ad_at, gs_ad_at, gs_sb_at, gs_ad_at, gs_sb_at]
  rcases hs with rfl | rfl
  · simp only [Int.one_mul]
    omega
  · simp only [Int.neg_mul, Int.one_mul, Int.neg_neg]
    have ng : ∀ (c : Prop) (ic : Decidable c) (y : Int), (if c then -y else 0) = -(if c then y else 0) := by
      intro c ic y
      split <;> omega
    simp only [ng, Int.neg_neg]
    omega
theorem gs_dl_o (S : gs_S) (i : Nat) {f : Nat} (j : Nat) (h0 : f ≠ 0) (h5 : f ≠ 5) : gs_dl S i f j = 0 := by
  unfold gs_dl
  rw [if_neg (fun z => h0 z.1), if_neg (fun z => h0 z.1), if_neg (fun z => h0 z.1), if_neg (fun z => h0 z.1), if_neg (fun z => h5 z.1), if_neg (fun z => h5 z.1)]
  rfl
theorem gs_if_rg {c : Prop} {ic : Decidable c} {y : Int} (h : -1000000 ≤ y) (h2 : y ≤ 1000000) : -1000000 ≤ (@ite Int c ic y 0) ∧ (@ite Int c ic y 0) ≤ 1000000 := by
  split <;> omega
theorem gs_dl_rg {S : gs_S} {i : Nat} (h : gs_iok S i) (f j : Nat) : -6000000 ≤ gs_dl S i f j ∧ gs_dl S i f j ≤ 6000000 := by
  obtain ⟨a0, a1, a2, a3, a4⟩ := h.r
  have t1 := gs_if_rg (c := f = 0 ∧ j = (S.1 (10 + i) 0 * 3 + S.1 (10 + i) 2).toNat) (ic := inferInstance) (y := -S.1 (10 + i) 3) (by omega) (by omega)
  have t2 := gs_if_rg (c := f = 0 ∧ j = (S.1 (10 + i) 1 * 3 + S.1 (10 + i) 2).toNat) (ic := inferInstance) (y := S.1 (10 + i) 3) (by omega) (by omega)
  have t3 := gs_if_rg (c := f = 0 ∧ j = (S.1 (10 + i) 1 * 3 + 0).toNat) (ic := inferInstance) (y := -S.1 (10 + i) 4) (by omega) (by omega)
  have t4 := gs_if_rg (c := f = 0 ∧ j = (S.1 (10 + i) 0 * 3 + 0).toNat) (ic := inferInstance) (y := S.1 (10 + i) 4) (by omega) (by omega)
  have t5 := gs_if_rg (c := f = 5 ∧ j = (S.1 (10 + i) 1 * 6 + S.1 (10 + i) 0).toNat) (ic := inferInstance) (y := S.1 (10 + i) 4) (by omega) (by omega)
  have t6 := gs_if_rg (c := f = 5 ∧ j = (S.1 (10 + i) 0 * 6 + S.1 (10 + i) 1).toNat) (ic := inferInstance) (y := -S.1 (10 + i) 4) (by omega) (by omega)
  unfold gs_dl
  omega
/-- i moves (sg times) -/
def gs_mvd (S : gs_S) (i : Nat) (sg : Int) : gs_S := (fun f j => S.1 f j + sg * gs_dl S i f j, S.2)
theorem gs_mv_eq (S : gs_S) (i : Nat) {sg : Int} (hs : sg = 1 ∨ sg = -1) : gs_mv S (S.1 (10 + i) 0) (S.1 (10 + i) 1) (S.1 (10 + i) 2) (sg * S.1 (10 + i) 3) (sg * S.1 (10 + i) 4) = gs_mvd S i sg := by
  refine Prod.ext ?_ rfl
  funext f j
  exact gs_mv_at S i hs f j
theorem gs_mvd_ins (S : gs_S) (i : Nat) (sg : Int) {f : Nat} (j : Nat) (h0 : f ≠ 0) (h5 : f ≠ 5) : (gs_mvd S i sg).1 f j = S.1 f j := by
  show S.1 f j + sg * gs_dl S i f j = _
  rw [gs_dl_o S i j h0 h5, Int.mul_zero, Int.add_zero]
