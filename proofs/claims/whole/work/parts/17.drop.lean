/-! One round of taking back: the last that debits what is below its floor goes, and what is behind one that is gone. -/
def gs_bd (mt : Nat → Nat → Bool) (C : Nat → Bool) (j : Nat) : Bool := (List.range j).any fun i => !C i && mt j i
theorem gs_bd_t {mt : Nat → Nat → Bool} {C : Nat → Bool} {j : Nat} : gs_bd mt C j = true ↔ ∃ i, i < j ∧ C i = false ∧ mt j i = true := by
  unfold gs_bd
  rw [List.any_eq_true]
  constructor
  · rintro ⟨i, hi, h⟩
    rw [Bool.and_eq_true, Bool.not_eq_true'] at h
    exact ⟨i, List.mem_range.mp hi, h.1, h.2⟩
  · rintro ⟨i, hi, h1, h2⟩
    exact ⟨i, List.mem_range.mpr hi, by rw [h1, h2]; rfl⟩
/-- what is left of C when k is dropped -/
def gs_left (mt : Nat → Nat → Bool) (n k : Nat) (C C2 : Nat → Bool) : Prop := (∀ j, j < k → C2 j = C j) ∧ C2 k = false ∧ (∀ j, k < j → j < n → C2 j = (C j && !gs_bd mt C2 j))
section DR
variable {e : Nat → Nat → Int} {db : Nat → Nat → Bool} {mt : Nat → Nat → Bool} {r : Nat → Int} {n N x k : Nat} {C C2 U : Nat → Bool}
theorem gs_left_sub (h : gs_left mt n k C C2) : ∀ j, j < n → C2 j = true → C j = true := by
  intro j hj hc
  rcases Nat.lt_trichotomy j k with z | z | z
  · rw [← h.1 j z]; exact hc
  · rw [z, h.2.1] at hc; cases hc
  · rw [h.2.2 j z hj, Bool.and_eq_true] at hc
    exact hc.1
theorem gs_left_cl (h : gs_left mt n k C C2) (hc : gs_cl mt n C) : gs_cl mt n C2 := by
  intro j i hj hi hU hm
  rcases Nat.lt_trichotomy j k with z | z | z
  · rw [h.1 i (by omega)]
    exact hc j i hj hi (by rw [← h.1 j z]; exact hU) hm
  · rw [z, h.2.1] at hU; cases hU
  · rw [h.2.2 j z hj, Bool.and_eq_true, Bool.not_eq_true'] at hU
    refine Classical.byContradiction fun hn => ?_
    have : gs_bd mt C2 j = true := gs_bd_t.mpr ⟨i, hi, by cases hx : C2 i; rfl; exact absurd hx hn, hm⟩
    rw [this] at hU
    cases hU.2
theorem gs_left_max (h : gs_left mt n k C C2) (hd : ∀ k, k < n → e k x < 0 → db k x = true) (hm : ∀ k j, k < n → j < k → db k x = true → db j x = true → mt k j = true) (hx : x < N) (hUC : ∀ k, k < n → U k = true → C k = true) (hc : gs_cl mt n U) (hv : gs_cv2 e r n N U) (hb : r x + gs_pos e C n x < 0) (hk : k < n) (hdk : db k x = true) (hl : ∀ j, k < j → j < n → C j = true → ¬ db j x = true) : ∀ j, j < n → U j = true → C2 j = true := by
  intro j
  induction j using Nat.strongRecOn with
  | _ j ih =>
    intro hj hU
    rcases Nat.lt_trichotomy j k with z | z | z
    · rw [h.1 j z]; exact hUC j hj hU
    · subst z
      exact absurd hU (gs_drop_ok hd hm hx hUC hc hv hb hk hdk hl)
    · rw [h.2.2 j z hj, hUC j hj hU]
      cases hbd : gs_bd mt C2 j
      · rfl
      · obtain ⟨i, hi, h1, h2⟩ := gs_bd_t.mp hbd
        have := ih i hi (by omega) (hc j i hj hi hU h2)
        rw [h1] at this
        cases this
end DR
def gs_cnt (C : Nat → Bool) (n : Nat) : Int := gs_sum (fun k => gs_z (C k)) n
theorem gs_z01 (b : Bool) : gs_z b = 0 ∨ gs_z b = 1 := by
  cases b
  · exact Or.inl rfl
  · exact Or.inr rfl
theorem gs_cnt_nn (C : Nat → Bool) : ∀ n, 0 ≤ gs_cnt C n ∧ gs_cnt C n ≤ n
  | 0 => by simp [gs_cnt, gs_sum]
  | n + 1 => by
    have a := gs_cnt_nn C n
    have b := gs_z01 (C n)
    unfold gs_cnt at a ⊢
    simp only [gs_sum]
    omega
theorem gs_cnt_lt {C C2 : Nat → Bool} {n k : Nat} (h : ∀ j, j < n → C2 j = true → C j = true) (hk : k < n) (h1 : C k = true) (h2 : C2 k = false) : gs_cnt C2 n < gs_cnt C n := by
  have le : ∀ m, m ≤ n → gs_cnt C2 m ≤ gs_cnt C m := by
    intro m hm
    refine gs_sum_le fun j hj => ?_
    cases hc : C2 j
    · have := gs_z01 (C j)
      rw [gs_zt_f]
      omega
    · rw [h j (by omega) hc]
      exact Int.le_refl _
  have lt : ∀ m, k < m → m ≤ n → gs_cnt C2 m < gs_cnt C m := by
    intro m
    induction m with
    | zero => intro z; omega
    | succ m ih =>
      intro z hm
      have s1 : gs_cnt C2 (m + 1) = gs_cnt C2 m + gs_z (C2 m) := rfl
      have s2 : gs_cnt C (m + 1) = gs_cnt C m + gs_z (C m) := rfl
      by_cases hkm : k = m
      · subst hkm
        have := le k (by omega)
        rw [s1, s2, h1, h2, gs_zt_t, gs_zt_f]
        omega
      · have a := ih (by omega) (by omega)
        have b : gs_z (C2 m) ≤ gs_z (C m) := by
          cases hc : C2 m
          · have := gs_z01 (C m)
            rw [gs_zt_f]
            omega
          · rw [h m (by omega) hc]
            exact Int.le_refl _
        rw [s1, s2]
        omega
  exact lt n hk (Nat.le_refl n)
theorem gs_cnt_0 {C : Nat → Bool} {n : Nat} (h : gs_cnt C n ≤ 0) : ∀ k, k < n → C k = false := by
  intro k hk
  cases hc : C k
  · rfl
  · have := gs_cnt_lt (C := C) (C2 := fun _ => false) (n := n) (k := k) (fun _ _ z => by cases z) hk hc rfl
    have := (gs_cnt_nn (fun _ => false) n).1
    omega
