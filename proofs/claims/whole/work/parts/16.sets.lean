/-! Closed and covered sets (RESOLVING), as mathematics: places 0 .. n-1 in their order, e k x: what settling the k-th does to position x, db k x: it debits x. -/
def gs_sum (f : Nat → Int) : Nat → Int
  | 0 => 0
  | n + 1 => gs_sum f n + f n
theorem gs_sum_le {f g : Nat → Int} : ∀ {n : Nat}, (∀ k, k < n → f k ≤ g k) → gs_sum f n ≤ gs_sum g n
  | 0, _ => Int.le_refl _
  | n + 1, h => by
    have a := gs_sum_le (n := n) fun k hk => h k (by omega)
    have b := h n (by omega)
    simp only [gs_sum]
    omega
theorem gs_sum_eq {f g : Nat → Int} {n : Nat} (h : ∀ k, k < n → f k = g k) : gs_sum f n = gs_sum g n := by
  induction n with
  | zero => rfl
  | succ n ih =>
    simp only [gs_sum]
    rw [ih fun k hk => h k (by omega), h n (by omega)]
theorem gs_sum_0 {f : Nat → Int} {n : Nat} (h : ∀ k, k < n → f k = 0) : gs_sum f n = 0 := by
  induction n with
  | zero => rfl
  | succ n ih =>
    simp only [gs_sum]
    rw [ih fun k hk => h k (by omega), h n (by omega)]
    rfl
/-- one term more or less -/
theorem gs_sum_up {f g : Nat → Int} {n k : Nat} (hk : k < n) (h : ∀ j, j < n → j ≠ k → g j = f j) : gs_sum g n = gs_sum f n + (g k - f k) := by
  induction n with
  | zero => omega
  | succ n ih =>
    simp only [gs_sum]
    by_cases e : k = n
    · subst e
      rw [gs_sum_eq (f := g) (g := f) fun j hj => h j (by omega) (by omega)]
      omega
    · rw [ih (by omega) fun j hj => h j (by omega), h n (by omega) (fun z => e z.symm)]
      omega
def gs_pos (e : Nat → Nat → Int) (C : Nat → Bool) (n x : Nat) : Int := gs_sum (fun k => if C k = true then e k x else 0) n
def gs_cl (mt : Nat → Nat → Bool) (n : Nat) (U : Nat → Bool) : Prop := ∀ k j, k < n → j < k → U k = true → mt k j = true → U j = true
def gs_cv2 (e : Nat → Nat → Int) (r : Nat → Int) (n N : Nat) (U : Nat → Bool) : Prop := ∀ x, x < N → 0 ≤ r x + gs_pos e U n x
/-- the last that debits what is below its floor is in no closed and covered set -/
theorem gs_drop_ok {e : Nat → Nat → Int} {db : Nat → Nat → Bool} {mt : Nat → Nat → Bool} {r : Nat → Int} {n N x k : Nat} {C U : Nat → Bool} (hd : ∀ k, k < n → e k x < 0 → db k x = true) (hm : ∀ k j, k < n → j < k → db k x = true → db j x = true → mt k j = true) (hx : x < N) (hUC : ∀ k, k < n → U k = true → C k = true) (hc : gs_cl mt n U) (hv : gs_cv2 e r n N U) (hb : r x + gs_pos e C n x < 0) (hk : k < n) (hdk : db k x = true) (hl : ∀ j, k < j → j < n → C j = true → ¬ db j x = true) : ¬ U k = true := by
  intro hU
  have a := hv x hx
  have b : gs_pos e U n x ≤ gs_pos e C n x := by
    refine gs_sum_le fun j hj => ?_
    by_cases h1 : U j = true
    · simp only [h1, hUC j hj h1, if_true]
      exact Int.le_refl _
    · rw [if_neg h1]
      by_cases h2 : C j = true
      · rw [if_pos h2]
        refine Int.not_lt.mp fun h3 => ?_
        have h4 := hd j hj h3
        rcases Nat.lt_trichotomy j k with h5 | h5 | h5
        · exact h1 (hc k j hk h5 hU (hm k j hk h5 hdk h4))
        · subst h5; exact h1 hU
        · exact hl j h5 hj h2 h4
      · rw [if_neg h2]
        exact Int.le_refl _
  omega
/-- below its floor: one of the set debits it -/
theorem gs_below {e : Nat → Nat → Int} {db : Nat → Nat → Bool} {r : Nat → Int} {n x : Nat} {C : Nat → Bool} (hd : ∀ k, k < n → e k x < 0 → db k x = true) (hr : 0 ≤ r x) (hb : r x + gs_pos e C n x < 0) : ∃ k, k < n ∧ C k = true ∧ db k x = true := by
  refine Classical.byContradiction fun hno => ?_
  have a : (0 : Int) ≤ gs_pos e C n x := by
    have : gs_sum (fun _ => 0) n ≤ gs_pos e C n x := by
      refine gs_sum_le fun j hj => ?_
      by_cases h2 : C j = true
      · rw [if_pos h2]
        exact Int.not_lt.mp fun h3 => hno ⟨j, hj, h2, hd j hj h3⟩
      · rw [if_neg h2]
        exact Int.le_refl _
    rwa [gs_sum_0 fun _ _ => rfl] at this
  omega
